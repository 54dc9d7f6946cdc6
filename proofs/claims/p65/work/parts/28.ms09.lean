set_option maxRecDepth 100000 in
set_option maxHeartbeats 8000000 in
theorem sX11_pairs (l : Launch) (G : va_G) (cs : Nat → ClassId) (h : Nat) (q : Nat → Nat) (F : Nat → Int32) (A : Nat → Nat → Int32) (D : Int64) (B : Nat → Nat → Int64) (hI : IM F A) : ImpI l yX11_pairs cX11_pairs 4 (some .int) 3 0 0 G (TY cs) [.ref h] (mS cs h q F A D B) (fun (r : Int32) (u : Int32 × (Nat → Int32) × (Nat → Int32) × (Nat → Int32)) => ((0 : Int) ≤ u.1.toInt ∧ u.1.toInt ≤ 6272) ∧ (True)) (fun u : Int32 × (Nat → Int32) × (Nat → Int32) × (Nat → Int32) => (mS cs h q (upd F 26 u.1) (vA (vA (vA A 23 u.2.1) 24 u.2.2.1) 25 u.2.2.2) D B)) := by
  refine mkD (Qc := (QDi G (fun (r : Int32) (u : Int32 × (Nat → Int32) × (Nat → Int32) × (Nat → Int32)) => ((0 : Int) ≤ u.1.toInt ∧ u.1.toInt ≤ 6272) ∧ (True)) (fun u : Int32 × (Nat → Int32) × (Nat → Int32) × (Nat → Int32) => (mS cs h q (upd F 26 u.1) (vA (vA (vA A 23 u.2.1) 24 u.2.2.1) 25 u.2.2.2) D B)))) (by decide) (by simp [lg_sl, Value.category]) ?_
  intro p e s m args below meth c ls A0 hx hb hml hr hlk hown hmn ht hK hP hD hS hA hl
  have hl : lv_has ls 4 [(0, .ref h)] := hl
  refine lv_aload_n hx hb dX11_pairs_0 rfl (lv_at hl 0 rfl) ?_
  refine getF (v := .ref (q 1)) hx hb ht hown hK hP iTX11 0 1 rfl rfl (by decide) fl_RX11_9 rfl dX11_pairs_1 ?_
  refine lv_iconst (v := 4) hx hb dX11_pairs_4 (by decide) ?_
  refine va_iald hx hb hK.1 hP 1 0 rfl rfl (show ¬ (_ ∨ _) by decide) dX11_pairs_5 ?_
  refine W.eq (g2 := F0 m 6 ls [.int (A 1 4)]) rfl ?_
  have zf1 : (0 : Int) ≤ (A 1 4).toInt ∧ (A 1 4).toInt ≤ 7 := (hI.2 1 4)
  refine lv_if_ne (tgt := 12) hx hb dX11_pairs_6 (by decide) (fun c2 => ?_) (fun c2 => ?_)
  · have zc2 := neK rfl (show (0 : Int32).toInt = 0 by decide) c2
    refine lv_iconst (v := 0) hx hb dX11_pairs_12 (by decide) ?_
    refine lv_istore_n (lv' := [(1, .int 0), (0, .ref h)]) hx hb dX11_pairs_13 rfl hl (by decide) rfl (fun ls hl => ?_)
    refine lv_iconst (v := 0) hx hb dX11_pairs_14 (by decide) ?_
    refine lv_istore_n (lv' := [(2, .int 0), (1, .int 0), (0, .ref h)]) hx hb dX11_pairs_15 rfl hl (by decide) rfl (fun ls hl => ?_)
    have B16 : ∀ (n : Nat) (x16_1 : Int32) (x16_2 : Int32) (f26_16 : Int32) (a23_16 : (Nat → Int32)) (a24_16 : (Nat → Int32)) (a25_16 : (Nat → Int32)) (H : Heap) (locs : List Loc) (ls : Array Slot), (7 - x16_2.toInt).toNat < n → (0 : Int) ≤ x16_2.toInt ∧ x16_2.toInt ≤ 7 → (0 : Int) ≤ f26_16.toInt ∧ f26_16.toInt ≤ 6272 → va_P G vwCl (mS cs h q (upd F 26 f26_16) (vA (vA (vA A 23 a23_16) 24 a24_16) 25 a25_16) D B) H → va_D A0 (mS cs h q (upd F 26 f26_16) (vA (vA (vA A 23 a23_16) 24 a24_16) 25 a25_16) D B) → va_S A0 s.heap H locs → lv_has ls 4 [(0, .ref h), (1, .int x16_1), (2, .int x16_2)] → W p l e (rmk 3 0 0) s m args below meth c H locs 0 0 (MQ below ((QDi G (fun (r : Int32) (u : Int32 × (Nat → Int32) × (Nat → Int32) × (Nat → Int32)) => ((0 : Int) ≤ u.1.toInt ∧ u.1.toInt ≤ 6272) ∧ (True)) (fun u : Int32 × (Nat → Int32) × (Nat → Int32) × (Nat → Int32) => (mS cs h q (upd F 26 u.1) (vA (vA (vA A 23 u.2.1) 24 u.2.2.1) 25 u.2.2.2) D B))) A0) args s 0 0 A0) (F0 m 16 ls []) := by
      intro n
      induction n with
      | zero => intro x16_1 x16_2 f26_16 a23_16 a24_16 a25_16 H locs ls hmeas hx16_2 hf26_16 hP hD hS hl; exact absurd hmeas (Nat.not_lt_zero _)
      | succ n ih16 =>
        intro x16_1 x16_2 f26_16 a23_16 a24_16 a25_16 H locs ls hmeas hx16_2 hf26_16 hP hD hS hl
        refine lv_iload_n hx hb dX11_pairs_16 rfl (lv_at hl 2 rfl) ?_
        refine lv_aload_n hx hb dX11_pairs_17 rfl (lv_at hl 0 rfl) ?_
        refine getF (v := .ref (q 1)) hx hb ht hown hK hP iTX11 0 1 rfl rfl (by decide) fl_RX11_9 rfl dX11_pairs_18 ?_
        refine lv_iconst (v := 4) hx hb dX11_pairs_21 (by decide) ?_
        refine va_iald hx hb hK.1 hP 1 0 rfl rfl (show ¬ (_ ∨ _) by decide) dX11_pairs_22 ?_
        refine W.eq (g2 := F0 m 23 ls [.int (A 1 4), .int x16_2]) rfl ?_
        have zf12001 : (0 : Int) ≤ (A 1 4).toInt ∧ (A 1 4).toInt ≤ 7 := (hI.2 1 4)
        refine lv_icmp_ge (tgt := 69) hx hb dX11_pairs_23 (by decide) (fun c12002 => ?_) (fun c12002 => ?_)
        · have zc12002 := leK rfl rfl c12002
          refine lv_iload_n hx hb dX11_pairs_69 rfl (lv_at hl 1 rfl) ?_
          exact retDi (f26_16, a23_16, a24_16, a25_16) hx hb hr hlk hP hD hS dX11_pairs_70 (⟨show (0 : Int) ≤ f26_16.toInt ∧ f26_16.toInt ≤ 6272 by omega, trivial⟩) (Nat.le_of_ble_eq_true rfl) (Nat.le_of_ble_eq_true rfl)
        · have zc12002 := nleK rfl rfl c12002
          refine lv_iload_n hx hb dX11_pairs_26 rfl (lv_at hl 2 rfl) ?_
          refine lv_istore_n (lv' := [(3, .int x16_2), (0, .ref h), (1, .int x16_1), (2, .int x16_2)]) hx hb dX11_pairs_27 rfl hl (by decide) rfl (fun ls hl => ?_)
          have B28 : ∀ (n : Nat) (x28_1 : Int32) (x28_3 : Int32) (f26_28 : Int32) (a23_28 : (Nat → Int32)) (a24_28 : (Nat → Int32)) (a25_28 : (Nat → Int32)) (H : Heap) (locs : List Loc) (ls : Array Slot), (7 - x28_3.toInt).toNat < n → (0 : Int) ≤ x28_3.toInt ∧ x28_3.toInt ≤ 7 → (0 : Int) ≤ f26_28.toInt ∧ f26_28.toInt ≤ 6272 → va_P G vwCl (mS cs h q (upd F 26 f26_28) (vA (vA (vA A 23 a23_28) 24 a24_28) 25 a25_28) D B) H → va_D A0 (mS cs h q (upd F 26 f26_28) (vA (vA (vA A 23 a23_28) 24 a24_28) 25 a25_28) D B) → va_S A0 s.heap H locs → lv_has ls 4 [(0, .ref h), (1, .int x28_1), (2, .int x16_2), (3, .int x28_3)] → W p l e (rmk 3 0 0) s m args below meth c H locs 0 0 (MQ below ((QDi G (fun (r : Int32) (u : Int32 × (Nat → Int32) × (Nat → Int32) × (Nat → Int32)) => ((0 : Int) ≤ u.1.toInt ∧ u.1.toInt ≤ 6272) ∧ (True)) (fun u : Int32 × (Nat → Int32) × (Nat → Int32) × (Nat → Int32) => (mS cs h q (upd F 26 u.1) (vA (vA (vA A 23 u.2.1) 24 u.2.2.1) 25 u.2.2.2) D B))) A0) args s 0 0 A0) (F0 m 28 ls []) := by
            intro n
            induction n with
            | zero => intro x28_1 x28_3 f26_28 a23_28 a24_28 a25_28 H locs ls hmeas hx28_3 hf26_28 hP hD hS hl; exact absurd hmeas (Nat.not_lt_zero _)
            | succ n ih28 =>
              intro x28_1 x28_3 f26_28 a23_28 a24_28 a25_28 H locs ls hmeas hx28_3 hf26_28 hP hD hS hl
              refine lv_iload_n hx hb dX11_pairs_28 rfl (lv_at hl 3 rfl) ?_
              refine lv_aload_n hx hb dX11_pairs_29 rfl (lv_at hl 0 rfl) ?_
              refine getF (v := .ref (q 1)) hx hb ht hown hK hP iTX11 0 1 rfl rfl (by decide) fl_RX11_9 rfl dX11_pairs_30 ?_
              refine lv_iconst (v := 4) hx hb dX11_pairs_33 (by decide) ?_
              refine va_iald hx hb hK.1 hP 1 0 rfl rfl (show ¬ (_ ∨ _) by decide) dX11_pairs_34 ?_
              refine W.eq (g2 := F0 m 35 ls [.int (A 1 4), .int x28_3]) rfl ?_
              have zf20001 : (0 : Int) ≤ (A 1 4).toInt ∧ (A 1 4).toInt ≤ 7 := (hI.2 1 4)
              refine lv_icmp_ge (tgt := 63) hx hb dX11_pairs_35 (by decide) (fun c20002 => ?_) (fun c20002 => ?_)
              · have zc20002 := leK rfl rfl c20002
                obtain ⟨v20003, ev20003⟩ : ∃ z : Int32, z = x16_2 + 1 := ⟨_, rfl⟩
                have tv20003 : v20003.toInt = x16_2.toInt + 1 := by rw [ev20003]; exact addT rfl (by decide) (by omega)
                refine lv_iinc (v := v20003) (lv' := [(2, .int v20003), (0, .ref h), (1, .int x28_1), (3, .int x28_3)]) hx hb dX11_pairs_63 hl (k := 2) rfl (by rw [ev20003]; rfl) (by decide) rfl (fun ls hl => ?_)
                refine lv_goto (tgt := 16) hx hb dX11_pairs_66 (by decide) ?_
                exact ih16 x28_1 v20003 f26_28 a23_28 a24_28 a25_28 H locs ls (by omega) (by omega) (by omega) hP hD hS (lv_sub hl [1, 2, 0] rfl)
              · have zc20002 := nleK rfl rfl c20002
                refine lv_iload_n hx hb dX11_pairs_38 rfl (lv_at hl 1 rfl) ?_
                refine lv_aload_n hx hb dX11_pairs_39 rfl (lv_at hl 0 rfl) ?_
                refine lv_iload_n hx hb dX11_pairs_40 rfl (lv_at hl 2 rfl) ?_
                refine lv_iload_n hx hb dX11_pairs_41 rfl (lv_at hl 3 rfl) ?_
                refine lv_iconst (v := 0) hx hb dX11_pairs_42 (by decide) ?_
                refine behDi (wr := []) (runVD (As := [.int x16_2, .int x28_3, .int 0]) (rest := [.int x28_1]) ⟨hx, hb, hml, hown, ht⟩ (sX11_chase l G cs h q (upd F 26 f26_28) (vA (vA (vA A 23 a23_28) 24 a24_28) 25 a25_28) D B (IM_arr (k := 25) (IM_arr (k := 24) (IM_arr (k := 23) (IM_put (k := 26) hI (show (0 : Int) ≤ f26_28.toInt ∧ f26_28.toInt ≤ 6272 by omega)) (fun _ => i32b _)) (fun _ => i32b _)) (fun _ => i32b _)) x16_2 x28_3 0 (by omega) (by omega) (by decide)) okV_RX11_356 ⟨by decide, by decide⟩ hK hP hD [0, 1, 2, 3, 4, 5, 6, 7, 8, 9, 10, 11, 12, 13, 14, 15, 16, 17, 18, 19] rfl (by decide) rfl 0 rfl rfl hl.1 rfl (Nat.le_of_ble_eq_true rfl) dX11_pairs_43 ⟨(Nat.le_of_ble_eq_true rfl), (Nat.le_of_ble_eq_true rfl)⟩) hP hD hS hA [0, 1, 2, 3, 4, 5, 6, 7, 8, 9, 10, 11, 12, 13, 14, 15, 16, 17, 18, 19] [] rfl rfl (by decide) (by decide) (fun r9 u H locs hu hP hD hS => ?_)
                obtain ⟨x20004, g20005, g20006, g20007⟩ := u
                have kk20009 : (0 : Int32).toInt = 0 := by decide
                obtain ⟨r20008, rfl⟩ : ∃ z, z = r9 := ⟨_, rfl⟩
                obtain ⟨hbx20004, hr20008⟩ := hu
                have hbx20004 : (0 : Int) ≤ x20004.toInt ∧ x20004.toInt ≤ 6272 := hbx20004
                have hr20008 : CI g20005 g20006 g20007 x20004 ∧ (r20008.toInt = -1 ∨ (0 ≤ r20008.toInt ∧ r20008.toInt ≤ 6271 ∧ 0 ≤ (g20006 r20008.toNatClampNeg).toInt)) := hr20008
                have hP : va_P G vwCl (mS cs h q (upd F 26 x20004) (vA (vA (vA A 23 g20005) 24 g20006) 25 g20007) D B) H := hP
                have hD : va_D A0 (mS cs h q (upd F 26 x20004) (vA (vA (vA A 23 g20005) 24 g20006) 25 g20007) D B) := hD
                refine lv_iconst (v := (-1)) hx hb dX11_pairs_46 (by decide) ?_
                have B55 : ∀ (s55_0 : Int32) (s55_1 : Int32) (H : Heap) (locs : List Loc) (ls : Array Slot), (0 : Int) ≤ s55_0.toInt ∧ s55_0.toInt ≤ 1 → va_P G vwCl (mS cs h q (upd F 26 x20004) (vA (vA (vA A 23 g20005) 24 g20006) 25 g20007) D B) H → va_D A0 (mS cs h q (upd F 26 x20004) (vA (vA (vA A 23 g20005) 24 g20006) 25 g20007) D B) → va_S A0 s.heap H locs → lv_has ls 4 [(0, .ref h), (2, .int x16_2), (3, .int x28_3)] → W p l e (rmk 3 0 0) s m args below meth c H locs 0 0 (MQ below ((QDi G (fun (r : Int32) (u : Int32 × (Nat → Int32) × (Nat → Int32) × (Nat → Int32)) => ((0 : Int) ≤ u.1.toInt ∧ u.1.toInt ≤ 6272) ∧ (True)) (fun u : Int32 × (Nat → Int32) × (Nat → Int32) × (Nat → Int32) => (mS cs h q (upd F 26 u.1) (vA (vA (vA A 23 u.2.1) 24 u.2.2.1) 25 u.2.2.2) D B))) A0) args s 0 0 A0) (F0 m 55 ls [.int s55_0, .int s55_1]) := by
                  intro s55_0 s55_1 H locs ls hs55_0 hP hD hS hl
                  refine lv_iadd hx hb dX11_pairs_55 ?_
                  refine lv_topi (fun v37001 ev37001 => ?_)
                  refine lv_istore_n (lv' := [(1, .int v37001), (0, .ref h), (2, .int x16_2), (3, .int x28_3)]) hx hb dX11_pairs_56 rfl hl (by decide) rfl (fun ls hl => ?_)
                  obtain ⟨v37002, ev37002⟩ : ∃ z : Int32, z = x28_3 + 1 := ⟨_, rfl⟩
                  have tv37002 : v37002.toInt = x28_3.toInt + 1 := by rw [ev37002]; exact addT rfl (by decide) (by omega)
                  refine lv_iinc (v := v37002) (lv' := [(3, .int v37002), (1, .int v37001), (0, .ref h), (2, .int x16_2)]) hx hb dX11_pairs_57 hl (k := 3) rfl (by rw [ev37002]; rfl) (by decide) rfl (fun ls hl => ?_)
                  refine lv_goto (tgt := 28) hx hb dX11_pairs_60 (by decide) ?_
                  exact ih28 v37001 v37002 x20004 g20005 g20006 g20007 H locs ls (by omega) (by omega) (by omega) hP hD hS (lv_sub hl [2, 1, 3, 0] rfl)
                refine lv_icmp_eq (tgt := 54) hx hb dX11_pairs_47 (by decide) (fun c20010 => ?_) (fun c20010 => ?_)
                · have zc20010 := eqK rfl (show (-1 : Int32).toInt = (-1) by decide) c20010
                  refine lv_iconst (v := 0) hx hb dX11_pairs_54 (by decide) ?_
                  exact B55 0 x28_1 H locs ls (by decide) hP hD hS (lv_sub hl [0, 2, 3] rfl)
                · have zc20010 := neK rfl (show (-1 : Int32).toInt = (-1) by decide) c20010
                  refine lv_iconst (v := 1) hx hb dX11_pairs_50 (by decide) ?_
                  refine lv_goto (tgt := 55) hx hb dX11_pairs_51 (by decide) ?_
                  exact B55 1 x28_1 H locs ls (by decide) hP hD hS (lv_sub hl [0, 2, 3] rfl)
          exact B28 _ x16_1 x16_2 f26_16 a23_16 a24_16 a25_16 H locs ls (Nat.lt_succ_self _) (by omega) (by omega) hP hD hS (lv_sub hl [1, 2, 3, 0] rfl)
    exact B16 _ 0 0 (F 26) (A 23) (A 24) (A 25) s.heap [] ls (Nat.lt_succ_self _) (by decide) (hI.1 26) hP hD hS (lv_sub hl [2, 1, 0] rfl)
  · have zc2 := eqK rfl (show (0 : Int32).toInt = 0 by decide) c2
    refine lv_bipush (v := (-2)) hx hb dX11_pairs_9 (by decide) ?_
    exact retDi ((F 26), (A 23), (A 24), (A 25)) hx hb hr hlk hP hD hS dX11_pairs_11 (⟨hI.1 26, trivial⟩) (Nat.le_of_ble_eq_true rfl) (Nat.le_of_ble_eq_true rfl)

set_option maxRecDepth 100000 in
set_option maxHeartbeats 8000000 in
theorem sX11_saying (l : Launch) (G : va_G) (cs : Nat → ClassId) (h : Nat) (q : Nat → Nat) (F : Nat → Int32) (A : Nat → Nat → Int32) (D : Int64) (B : Nat → Nat → Int64) (hI : IM F A) (a1 : Int32) (a2 : Int32) (ha1 : (0 : Int) ≤ a1.toInt ∧ a1.toInt ≤ 63) (ha2 : (0 : Int) ≤ a2.toInt ∧ a2.toInt ≤ 5) : SafeR l yX11_saying cX11_saying 5 (some .int) 1 G (TY cs) [.ref h, .int a1, .int a2] (mS cs h q F A D B) (fun r : Int32 => r = SYF (A 1) a1 a2 ((A 1) 5).toNatClampNeg ∧ (0 : Int) ≤ r.toInt ∧ r.toInt ≤ 63) := by
  refine mkP (Qc := QRi (fun r : Int32 => r = SYF (A 1) a1 a2 ((A 1) 5).toNatClampNeg ∧ (0 : Int) ≤ r.toInt ∧ r.toInt ≤ 63)) (by decide) (by simp [lg_sl, Value.category]) ?_
  intro p e s m args below meth c ls hx hb hml hr hlk hown ht hK hP hS hl
  have hl : lv_has ls 5 [(0, .ref h), (1, .int a1), (2, .int a2)] := hl
  refine lv_iconst (v := 0) hx hb dX11_saying_0 (by decide) ?_
  refine lv_istore_n (lv' := [(3, .int 0), (0, .ref h), (1, .int a1), (2, .int a2)]) hx hb dX11_saying_1 rfl hl (by decide) rfl (fun ls hl => ?_)
  refine lv_iconst (v := 0) hx hb dX11_saying_2 (by decide) ?_
  refine lv_istore (lv' := [(4, .int 0), (3, .int 0), (0, .ref h), (1, .int a1), (2, .int a2)]) hx hb dX11_saying_3 hl (by decide) rfl (fun ls hl => ?_)
  have B5 : ∀ (n : Nat) (x5_3 : Int32) (x5_4 : Int32) (H : Heap) (locs : List Loc) (ls : Array Slot), (6 - x5_4.toInt).toNat < n → (0 : Int) ≤ x5_3.toInt ∧ x5_3.toInt ≤ 63 → (0 : Int) ≤ x5_4.toInt ∧ x5_4.toInt ≤ 6 → (x5_3 = SYF (A 1) a1 a2 x5_4.toNatClampNeg ∧ x5_4.toInt ≤ (A 1 5).toInt) → va_P G vwCl (mS cs h q F A D B) H → va_S (fun q => s.heap.size ≤ q) s.heap H locs → lv_has ls 5 [(0, .ref h), (1, .int a1), (2, .int a2), (3, .int x5_3), (4, .int x5_4)] → W p l e (rmk 1 0 0) s m args below meth c H locs 0 0 (MQ below (QRi (fun r : Int32 => r = SYF (A 1) a1 a2 ((A 1) 5).toNatClampNeg ∧ (0 : Int) ≤ r.toInt ∧ r.toInt ≤ 63) s.heap.size) args s 0 0 (fun q => s.heap.size ≤ q)) (F0 m 5 ls []) := by
    intro n
    induction n with
    | zero => intro x5_3 x5_4 H locs ls hmeas hx5_3 hx5_4 hsy hP hS hl; exact absurd hmeas (Nat.not_lt_zero _)
    | succ n ih5 =>
      intro x5_3 x5_4 H locs ls hmeas hx5_3 hx5_4 hsy hP hS hl
      refine lv_iload hx hb dX11_saying_5 (lv_at hl 4 rfl) ?_
      refine lv_aload_n hx hb dX11_saying_7 rfl (lv_at hl 0 rfl) ?_
      refine getF (v := .ref (q 1)) hx hb ht hown hK hP iTX11 0 1 rfl rfl (by decide) fl_RX11_9 rfl dX11_saying_8 ?_
      refine lv_iconst (v := 5) hx hb dX11_saying_11 (by decide) ?_
      refine va_iald hx hb hK.1 hP 1 0 rfl rfl (show ¬ (_ ∨ _) by decide) dX11_saying_12 ?_
      refine W.eq (g2 := F0 m 13 ls [.int (A 1 5), .int x5_4]) rfl ?_
      have zf5001 : (0 : Int) ≤ (A 1 5).toInt ∧ (A 1 5).toInt ≤ 6 := (hI.2 1 5)
      refine lv_icmp_ge (tgt := 58) hx hb dX11_saying_13 (by decide) (fun c5002 => ?_) (fun c5002 => ?_)
      · have zc5002 := leK rfl rfl c5002
        refine lv_iload_n hx hb dX11_saying_58 rfl (lv_at hl 3 rfl) ?_
        exact retRi hx hb hr hlk hS dX11_saying_59 (⟨hsy.1.trans (congrArg (SYF (A 1) a1 a2) (congrArg Int32.toNatClampNeg (Int32.toInt_inj.mp (by omega)))), by omega⟩)
      · have zc5002 := nleK rfl rfl c5002
        refine lv_iload_n hx hb dX11_saying_16 rfl (lv_at hl 3 rfl) ?_
        refine lv_iload_n hx hb dX11_saying_17 rfl (lv_at hl 1 rfl) ?_
        refine lv_iload hx hb dX11_saying_18 (lv_at hl 4 rfl) ?_
        refine behR (runSP (As := [.int a1, .int x5_4]) (rest := [.int x5_3]) ⟨hx, hb, hml, hown, ht⟩ (sX11_bit l G cs a1 x5_4 ) okS_RX11_258 ⟨by decide, by decide⟩ hK hP [] rfl hl.1 rfl (Nat.le_of_ble_eq_true rfl) dX11_saying_20 ⟨by decide, by decide⟩) hP hS (fun _ h => h) (fun r5003 H locs hr5003 hP hS => ?_)
        have hr5003 : r5003 = bitE a1 x5_4 ∧ (0 : Int) ≤ r5003.toInt ∧ r5003.toInt ≤ 1 := hr5003
        refine lv_iconst (v := 1) hx hb dX11_saying_23 (by decide) ?_
        have B50 : ∀ (s50_0 : Int32) (s50_1 : Int32) (H : Heap) (locs : List Loc) (ls : Array Slot), (0 : Int) ≤ s50_0.toInt ∧ s50_0.toInt ≤ 32 → (0 : Int) ≤ s50_1.toInt ∧ s50_1.toInt ≤ 63 → (s50_1 = SYF (A 1) a1 a2 x5_4.toNatClampNeg) → (s50_0 = if bitE a1 x5_4 = 1 ∧ bitE (A 1 (36 + 8 * x5_4.toNatClampNeg + (1 : Int32).toNatClampNeg)) a2 = 1 then (1 : Int32) <<< (x5_4 &&& 31) else 0) → va_P G vwCl (mS cs h q F A D B) H → va_S (fun q => s.heap.size ≤ q) s.heap H locs → lv_has ls 5 [(0, .ref h), (1, .int a1), (2, .int a2), (4, .int x5_4)] → W p l e (rmk 1 0 0) s m args below meth c H locs 0 0 (MQ below (QRi (fun r : Int32 => r = SYF (A 1) a1 a2 ((A 1) 5).toNatClampNeg ∧ (0 : Int) ≤ r.toInt ∧ r.toInt ≤ 63) s.heap.size) args s 0 0 (fun q => s.heap.size ≤ q)) (F0 m 50 ls [.int s50_0, .int s50_1]) := by
          intro s50_0 s50_1 H locs ls hs50_0 hs50_1 hy50 hs50 hP hS hl
          refine lv_ior hx hb dX11_saying_50 ?_
          refine lv_topi (fun v30001 ev30001 => ?_)
          have tv30001 : 0 ≤ v30001.toInt ∧ v30001.toInt ≤ 63 := by rw [ev30001]; exact orA 6 rfl rfl (by omega) (by omega) (by decide)
          refine lv_istore_n (lv' := [(3, .int v30001), (0, .ref h), (1, .int a1), (2, .int a2), (4, .int x5_4)]) hx hb dX11_saying_51 rfl hl (by decide) rfl (fun ls hl => ?_)
          obtain ⟨v30002, ev30002⟩ : ∃ z : Int32, z = x5_4 + 1 := ⟨_, rfl⟩
          have tv30002 : v30002.toInt = x5_4.toInt + 1 := by rw [ev30002]; exact addT rfl (by decide) (by omega)
          refine lv_iinc (v := v30002) (lv' := [(4, .int v30002), (3, .int v30001), (0, .ref h), (1, .int a1), (2, .int a2)]) hx hb dX11_saying_52 hl (k := 4) rfl (by rw [ev30002]; rfl) (by decide) rfl (fun ls hl => ?_)
          refine lv_goto (tgt := 5) hx hb dX11_saying_55 (by decide) ?_
          exact ih5 v30001 v30002 H locs ls (by omega) (by omega) (by omega) ⟨SYs hy50 ev30001 hs50 (by omega) tv30002, by omega⟩ hP hS (lv_sub hl [2, 3, 4, 1, 0] rfl)
        have B49 : ∀ (s49_0 : Int32) (H : Heap) (locs : List Loc) (ls : Array Slot), (0 : Int) ≤ s49_0.toInt ∧ s49_0.toInt ≤ 63 → (¬ (bitE a1 x5_4 = 1 ∧ bitE (A 1 (36 + 8 * x5_4.toNatClampNeg + (1 : Int32).toNatClampNeg)) a2 = 1)) → (s49_0 = SYF (A 1) a1 a2 x5_4.toNatClampNeg) → va_P G vwCl (mS cs h q F A D B) H → va_S (fun q => s.heap.size ≤ q) s.heap H locs → lv_has ls 5 [(0, .ref h), (1, .int a1), (2, .int a2), (4, .int x5_4)] → W p l e (rmk 1 0 0) s m args below meth c H locs 0 0 (MQ below (QRi (fun r : Int32 => r = SYF (A 1) a1 a2 ((A 1) 5).toNatClampNeg ∧ (0 : Int) ≤ r.toInt ∧ r.toInt ≤ 63) s.heap.size) args s 0 0 (fun q => s.heap.size ≤ q)) (F0 m 49 ls [.int s49_0]) := by
          intro s49_0 H locs ls hs49_0 hnc hy49 hP hS hl
          refine lv_iconst (v := 0) hx hb dX11_saying_49 (by decide) ?_
          exact B50 0 s49_0 H locs ls (by decide) (by omega) hy49 (by rw [if_neg hnc]) hP hS (lv_sub hl [0, 1, 2, 3] rfl)
        refine lv_icmp_ne (tgt := 49) hx hb dX11_saying_24 (by decide) (fun c5004 => ?_) (fun c5004 => ?_)
        · have zc5004 := neK rfl (show (1 : Int32).toInt = 1 by decide) c5004
          exact B49 x5_3 H locs ls (by omega) (by intro q9; have q8 := congrArg Int32.toInt (hr5003.1.trans q9.1); have k1 : (1 : Int32).toInt = 1 := (by decide); omega) hsy.1 hP hS (lv_sub hl [0, 1, 2, 4] rfl)
        · have zc5004 := eqK rfl (show (1 : Int32).toInt = 1 by decide) c5004
          refine lv_aload_n hx hb dX11_saying_27 rfl (lv_at hl 0 rfl) ?_
          refine lv_iload hx hb dX11_saying_28 (lv_at hl 4 rfl) ?_
          refine lv_iconst (v := 1) hx hb dX11_saying_30 (by decide) ?_
          refine behR (runVP (As := [.int x5_4, .int 1]) (rest := [.int x5_3]) ⟨hx, hb, hml, hown, ht⟩ (sX11_ofMan l G cs h q F A D B hI x5_4 1 (by omega) (by decide)) okV_RX11_234 ⟨by decide, by decide⟩ hK hP [0, 1, 2, 3, 4, 5, 6, 7, 8, 9, 10, 11, 12, 13, 14, 15, 16, 17, 18, 19] rfl 0 rfl rfl hl.1 rfl (Nat.le_of_ble_eq_true rfl) dX11_saying_31 ⟨by decide, by decide⟩) hP hS (fun _ h => h) (fun r5005 H locs hr5005 hP hS => ?_)
          have kk5006 : (1 : Int32).toInt = 1 := by decide
          have hr5005 : r5005 = (A 1) (36 + 8 * x5_4.toNatClampNeg + (1 : Int32).toNatClampNeg) ∧ (0 : Int) ≤ r5005.toInt ∧ r5005.toInt ≤ 99 ∧ ((1 : Int32).toInt = 1 → r5005.toInt ≤ 63) ∧ (2 ≤ (1 : Int32).toInt → r5005.toInt ≤ 9) := hr5005
          refine lv_iload_n hx hb dX11_saying_34 rfl (lv_at hl 2 rfl) ?_
          refine behR (runSP (As := [.int r5005, .int a2]) (rest := [.int x5_3]) ⟨hx, hb, hml, hown, ht⟩ (sX11_bit l G cs r5005 a2 ) okS_RX11_258 ⟨by decide, by decide⟩ hK hP [] rfl hl.1 rfl (Nat.le_of_ble_eq_true rfl) dX11_saying_35 ⟨by decide, by decide⟩) hP hS (fun _ h => h) (fun r5007 H locs hr5007 hP hS => ?_)
          have hr5007 : r5007 = bitE r5005 a2 ∧ (0 : Int) ≤ r5007.toInt ∧ r5007.toInt ≤ 1 := hr5007
          refine lv_iconst (v := 1) hx hb dX11_saying_38 (by decide) ?_
          refine lv_icmp_ne (tgt := 49) hx hb dX11_saying_39 (by decide) (fun c5008 => ?_) (fun c5008 => ?_)
          · have zc5008 := neK rfl (show (1 : Int32).toInt = 1 by decide) c5008
            exact B49 x5_3 H locs ls (by omega) (by intro q9; have q8 := congrArg Int32.toInt ((hr5007.1.trans (congrArg (fun z => bitE z a2) hr5005.1)).trans q9.2); have k1 : (1 : Int32).toInt = 1 := (by decide); omega) hsy.1 hP hS (lv_sub hl [0, 1, 2, 4] rfl)
          · have zc5008 := eqK rfl (show (1 : Int32).toInt = 1 by decide) c5008
            refine lv_iconst (v := 1) hx hb dX11_saying_42 (by decide) ?_
            refine lv_iload hx hb dX11_saying_43 (lv_at hl 4 rfl) ?_
            refine lv_ishl hx hb dX11_saying_45 ?_
            refine lv_topi (fun v5009 ev5009 => ?_)
            have tv5009 : (1 : Int) ≤ v5009.toInt ∧ v5009.toInt ≤ 32 := by rw [ev5009]; exact shlT 5 (by decide) rfl (by omega) (by decide)
            have pv5009 : v5009.toInt = P2 x5_4.toInt := by rw [ev5009]; exact shlP rfl (by omega)
            refine lv_goto (tgt := 50) hx hb dX11_saying_46 (by decide) ?_
            exact B50 v5009 x5_3 H locs ls (by omega) (by omega) hsy.1 (by rw [if_pos ⟨hr5003.1.symm.trans (Int32.toInt_inj.mp (by have k1 : (1 : Int32).toInt = 1 := (by decide); omega)), (hr5007.1.trans (congrArg (fun z => bitE z a2) hr5005.1)).symm.trans (Int32.toInt_inj.mp (by have k1 : (1 : Int32).toInt = 1 := (by decide); omega))⟩]; exact ev5009) hP hS (lv_sub hl [0, 1, 2, 4] rfl)
  exact B5 _ 0 0 s.heap [] ls (Nat.lt_succ_self _) (by decide) (by decide) ⟨(SY0 (by decide)).symm, (hI.2 1 5).1⟩ hP hS (lv_sub hl [2, 3, 4, 1, 0] rfl)

set_option maxRecDepth 100000 in
set_option maxHeartbeats 8000000 in
theorem sX11_askedBy (l : Launch) (G : va_G) (cs : Nat → ClassId) (h : Nat) (q : Nat → Nat) (F : Nat → Int32) (A : Nat → Nat → Int32) (D : Int64) (B : Nat → Nat → Int64) (hI : IM F A) (a1 : Int32) (a2 : Int32) (ha1 : (0 : Int) ≤ a1.toInt ∧ a1.toInt ≤ 63) (ha2 : (0 : Int) ≤ a2.toInt ∧ a2.toInt ≤ 5) : SafeR l yX11_askedBy cX11_askedBy 4 (some .int) 2 G (TY cs) [.ref h, .int a1, .int a2] (mS cs h q F A D B) (fun r : Int32 => r = AB6 (A 27) (A 1) a1 a2) := by
  refine mkP (Qc := QRi (fun r : Int32 => r = AB6 (A 27) (A 1) a1 a2)) (by decide) (by simp [lg_sl, Value.category]) ?_
  intro p e s m args below meth c ls hx hb hml hr hlk hown ht hK hP hS hl
  have hl : lv_has ls 4 [(0, .ref h), (1, .int a1), (2, .int a2)] := hl
  refine lv_aload_n hx hb dX11_askedBy_0 rfl (lv_at hl 0 rfl) ?_
  refine lv_iload_n hx hb dX11_askedBy_1 rfl (lv_at hl 1 rfl) ?_
  refine lv_iload_n hx hb dX11_askedBy_2 rfl (lv_at hl 2 rfl) ?_
  refine behR (runVP (As := [.int a1, .int a2]) (rest := []) ⟨hx, hb, hml, hown, ht⟩ (sX11_saying l G cs h q F A D B hI a1 a2 (by omega) (by omega)) okV_RX11_366 ⟨by decide, by decide⟩ hK hP [0, 1, 2, 3, 4, 5, 6, 7, 8, 9, 10, 11, 12, 13, 14, 15, 16, 17, 18, 19] rfl 0 rfl rfl hl.1 rfl (Nat.le_of_ble_eq_true rfl) dX11_askedBy_3 ⟨by decide, by decide⟩) hP hS (fun _ h => h) (fun r1 H locs hr1 hP hS => ?_)
  have hr1 : r1 = SYF (A 1) a1 a2 ((A 1) 5).toNatClampNeg ∧ (0 : Int) ≤ r1.toInt ∧ r1.toInt ≤ 63 := hr1
  refine lv_istore_n (lv' := [(3, .int r1), (0, .ref h), (1, .int a1), (2, .int a2)]) hx hb dX11_askedBy_6 rfl hl (by decide) rfl (fun ls hl => ?_)
  refine lv_iload_n hx hb dX11_askedBy_7 rfl (lv_at hl 0 rfl) ?_
  refine lv_if_eq (tgt := 16) hx hb dX11_askedBy_8 (by decide) (fun c2 => ?_) (fun c2 => ?_)
  · have zc2 := eqK rfl (show (0 : Int32).toInt = 0 by decide) c2
    refine lv_ldcw hx hb hown (ht _ ki_RX11_333) dX11_askedBy_16 ?_
    refine lv_goto (tgt := 43) hx hb dX11_askedBy_19 (by decide) ?_
    exact retRi hx hb hr hlk hS dX11_askedBy_43 (AB6a hr1.1 (by first | exact Or.inl (Int32.toInt_inj.mp (by have k0 : (0 : Int32).toInt = 0 := (by decide); omega)) | exact Or.inr (Int32.toInt_inj.mp (by omega))))
  · have zc2 := neK rfl (show (0 : Int32).toInt = 0 by decide) c2
    refine lv_iload_n hx hb dX11_askedBy_11 rfl (lv_at hl 0 rfl) ?_
    refine lv_iload_n hx hb dX11_askedBy_12 rfl (lv_at hl 2 rfl) ?_
    refine lv_icmp_ne (tgt := 22) hx hb dX11_askedBy_13 (by decide) (fun c3 => ?_) (fun c3 => ?_)
    · have zc3 := neK rfl rfl c3
      refine lv_iconst (v := 1) hx hb dX11_askedBy_22 (by decide) ?_
      refine lv_aload_n hx hb dX11_askedBy_23 rfl (lv_at hl 1 rfl) ?_
      refine getF (v := .ref (q 27)) hx hb ht hown hK hP iTX11 0 27 rfl rfl (by decide) fl_RX11_58 rfl dX11_askedBy_24 ?_
      refine lv_iload_n hx hb dX11_askedBy_27 rfl (lv_at hl 0 rfl) ?_
      refine va_iald hx hb hK.1 hP 15 0 rfl rfl (inK rfl (by omega) (by decide)) dX11_askedBy_28 ?_
      refine lv_topi (fun v4 ev4 => ?_)
      have ev4 : v4 = (A 27) r1.toNatClampNeg := ev4
      refine lv_aload_n hx hb dX11_askedBy_29 rfl (lv_at hl 1 rfl) ?_
      refine getF (v := .ref (q 27)) hx hb ht hown hK hP iTX11 0 27 rfl rfl (by decide) fl_RX11_58 rfl dX11_askedBy_30 ?_
      refine lv_iload_n hx hb dX11_askedBy_33 rfl (lv_at hl 2 rfl) ?_
      refine lv_iload_n hx hb dX11_askedBy_34 rfl (lv_at hl 0 rfl) ?_
      refine lv_iconst (v := (-1)) hx hb dX11_askedBy_35 (by decide) ?_
      refine lv_ixor hx hb dX11_askedBy_36 ?_
      refine lv_topi (fun v5 ev5 => ?_)
      refine lv_iand hx hb dX11_askedBy_37 ?_
      refine lv_topi (fun v6 ev6 => ?_)
      have tv6 : 0 ≤ v6.toInt ∧ v6.toInt ≤ 63 := by rw [ev6]; exact andA 6 rfl (by omega) (by decide)
      refine va_iald hx hb hK.1 hP 15 0 rfl rfl (inK rfl (by omega) (by decide)) dX11_askedBy_38 ?_
      refine lv_topi (fun v7 ev7 => ?_)
      have ev7 : v7 = (A 27) v6.toNatClampNeg := ev7
      refine va_mmax hx hb (by rw [hml]; exact hl.1.symm) hown (ht _ mth_RX11_369) (ht _ mth_max_st) (ht _ mth_in) (ht _ mth_max_co) (Nat.le_of_ble_eq_true rfl) (Nat.le_of_ble_eq_true rfl) (Nat.zero_le _) (Nat.zero_le _) dX11_askedBy_39 ?_
      refine lv_topi (fun v8 ev8 => ?_)
      have tv8 := maxK (a := v4) (b := v7)
      rw [← ev8] at tv8
      refine lv_iadd hx hb dX11_askedBy_42 ?_
      refine lv_topi (fun v9 ev9 => ?_)
      exact retRi hx hb hr hlk hS dX11_askedBy_43 (AB6b hr1.1 (fun q9 => by rcases q9 with q9 | q9 <;> (have q8 := congrArg Int32.toInt q9; have k0 : (0 : Int32).toInt = 0 := (by decide); omega)) (by rw [ev9, ev8, ev4, ev7, ev6, ev5] <;> rfl))
    · have zc3 := eqK rfl rfl c3
      refine lv_ldcw hx hb hown (ht _ ki_RX11_333) dX11_askedBy_16 ?_
      refine lv_goto (tgt := 43) hx hb dX11_askedBy_19 (by decide) ?_
      exact retRi hx hb hr hlk hS dX11_askedBy_43 (AB6a hr1.1 (by first | exact Or.inl (Int32.toInt_inj.mp (by have k0 : (0 : Int32).toInt = 0 := (by decide); omega)) | exact Or.inr (Int32.toInt_inj.mp (by omega))))

set_option maxRecDepth 100000 in
set_option maxHeartbeats 8000000 in
theorem sX11_fillAsked (l : Launch) (G : va_G) (cs : Nat → ClassId) (h : Nat) (q : Nat → Nat) (F : Nat → Int32) (A : Nat → Nat → Int32) (D : Int64) (B : Nat → Nat → Int64) (hI : IM F A) : ImpW l yX11_fillAsked cX11_fillAsked 4 3 0 0 G (TY cs) [.ref h] (mS cs h q F A D B) (fun u : (Nat → Int32) => FAg u (A 1) (P2 ((A 1) 5).toInt)) (fun u : (Nat → Int32) => (mS cs h q F (vA A 27 u) D B)) := by
  refine mkD (Qc := (QDw G (fun u : (Nat → Int32) => FAg u (A 1) (P2 ((A 1) 5).toInt)) (fun u : (Nat → Int32) => (mS cs h q F (vA A 27 u) D B)))) (by decide) (by simp [lg_sl, Value.category]) ?_
  intro p e s m args below meth c ls A0 hx hb hml hr hlk hown hmn ht hK hP hD hS hA hl
  have hl : lv_has ls 4 [(0, .ref h)] := hl
  refine lv_iconst (v := 0) hx hb dX11_fillAsked_0 (by decide) ?_
  refine lv_istore_n (lv' := [(1, .int 0), (0, .ref h)]) hx hb dX11_fillAsked_1 rfl hl (by decide) rfl (fun ls hl => ?_)
  have B2 : ∀ (n : Nat) (x2_1 : Int32) (a27_2 : (Nat → Int32)) (H : Heap) (locs : List Loc) (ls : Array Slot), (64 - x2_1.toInt).toNat < n → (0 : Int) ≤ x2_1.toInt ∧ x2_1.toInt ≤ 64 → (FAg a27_2 (A 1) x2_1.toInt) → va_P G vwCl (mS cs h q F (vA A 27 a27_2) D B) H → va_D A0 (mS cs h q F (vA A 27 a27_2) D B) → va_S A0 s.heap H locs → lv_has ls 4 [(0, .ref h), (1, .int x2_1)] → W p l e (rmk 3 0 0) s m args below meth c H locs 0 0 (MQ below ((QDw G (fun u : (Nat → Int32) => FAg u (A 1) (P2 ((A 1) 5).toInt)) (fun u : (Nat → Int32) => (mS cs h q F (vA A 27 u) D B))) A0) args s 0 0 A0) (F0 m 2 ls []) := by
    intro n
    induction n with
    | zero => intro x2_1 a27_2 H locs ls hmeas hx2_1 hfa hP hD hS hl; exact absurd hmeas (Nat.not_lt_zero _)
    | succ n ih2 =>
      intro x2_1 a27_2 H locs ls hmeas hx2_1 hfa hP hD hS hl
      refine lv_iload_n hx hb dX11_fillAsked_2 rfl (lv_at hl 1 rfl) ?_
      refine lv_iconst (v := 1) hx hb dX11_fillAsked_3 (by decide) ?_
      refine lv_aload_n hx hb dX11_fillAsked_4 rfl (lv_at hl 0 rfl) ?_
      refine getF (v := .ref (q 1)) hx hb ht hown hK hP iTX11 0 1 rfl rfl (by decide) fl_RX11_9 rfl dX11_fillAsked_5 ?_
      refine lv_iconst (v := 5) hx hb dX11_fillAsked_8 (by decide) ?_
      refine va_iald hx hb hK.1 hP 1 0 rfl rfl (show ¬ (_ ∨ _) by decide) dX11_fillAsked_9 ?_
      refine W.eq (g2 := F0 m 10 ls [.int (A 1 5), .int 1, .int x2_1]) rfl ?_
      have zf3001 : (0 : Int) ≤ (A 1 5).toInt ∧ (A 1 5).toInt ≤ 6 := (hI.2 1 5)
      refine lv_ishl hx hb dX11_fillAsked_10 ?_
      refine lv_topi (fun v3002 ev3002 => ?_)
      have tv3002 : (1 : Int) ≤ v3002.toInt ∧ v3002.toInt ≤ 64 := by rw [ev3002]; exact shlT 6 (by decide) rfl (by omega) (by decide)
      have pv3002 : v3002.toInt = P2 (A 1 5).toInt := by rw [ev3002]; exact shlP rfl (by omega)
      refine lv_icmp_ge (tgt := 72) hx hb dX11_fillAsked_11 (by decide) (fun c3003 => ?_) (fun c3003 => ?_)
      · have zc3003 := leK rfl rfl c3003
        exact retDw a27_2 hx hb hr hlk hP hD hS dX11_fillAsked_72 ((FAle hfa (by omega))) (Nat.le_of_ble_eq_true rfl) (Nat.le_of_ble_eq_true rfl)
      · have zc3003 := nleK rfl rfl c3003
        refine lv_iload_n hx hb dX11_fillAsked_14 rfl (lv_at hl 1 rfl) ?_
        refine behR (runSP (As := [.int x2_1]) (rest := []) ⟨hx, hb, hml, hown, ht⟩ (sX11_bits l G cs x2_1 ) okS_RX11_255 ⟨by decide, by decide⟩ hK hP [] rfl hl.1 rfl (Nat.le_of_ble_eq_true rfl) dX11_fillAsked_15 ⟨by decide, by decide⟩) hP hS hA (fun r3004 H locs hr3004 hP hS => ?_)
        refine lv_iconst (v := 1) hx hb dX11_fillAsked_18 (by decide) ?_
        have B29 : ∀ (s29_0 : Int32) (H : Heap) (locs : List Loc) (ls : Array Slot), (0 : Int) ≤ s29_0.toInt ∧ s29_0.toInt ≤ 1000000000 → (s29_0.toInt = 0 ∨ s29_0.toInt = 1000000000) → va_P G vwCl (mS cs h q F (vA A 27 a27_2) D B) H → va_D A0 (mS cs h q F (vA A 27 a27_2) D B) → va_S A0 s.heap H locs → lv_has ls 4 [(0, .ref h), (1, .int x2_1)] → W p l e (rmk 3 0 0) s m args below meth c H locs 0 0 (MQ below ((QDw G (fun u : (Nat → Int32) => FAg u (A 1) (P2 ((A 1) 5).toInt)) (fun u : (Nat → Int32) => (mS cs h q F (vA A 27 u) D B))) A0) args s 0 0 A0) (F0 m 29 ls [.int s29_0]) := by
          intro s29_0 H locs ls hs29_0 hs29 hP hD hS hl
          refine lv_istore_n (lv' := [(2, .int s29_0), (0, .ref h), (1, .int x2_1)]) hx hb dX11_fillAsked_29 rfl hl (by decide) rfl (fun ls hl => ?_)
          refine lv_iconst (v := 0) hx hb dX11_fillAsked_30 (by decide) ?_
          refine lv_istore_n (lv' := [(3, .int 0), (2, .int s29_0), (0, .ref h), (1, .int x2_1)]) hx hb dX11_fillAsked_31 rfl hl (by decide) rfl (fun ls hl => ?_)
          have B32 : ∀ (n : Nat) (x32_2 : Int32) (x32_3 : Int32) (H : Heap) (locs : List Loc) (ls : Array Slot), (6 - x32_3.toInt).toNat < n → x32_2.toInt ≤ 1000000000 → (0 : Int) ≤ x32_3.toInt ∧ x32_3.toInt ≤ 6 → (BS a27_2 (A 1) x2_1 x32_2) → va_P G vwCl (mS cs h q F (vA A 27 a27_2) D B) H → va_D A0 (mS cs h q F (vA A 27 a27_2) D B) → va_S A0 s.heap H locs → lv_has ls 4 [(0, .ref h), (1, .int x2_1), (2, .int x32_2), (3, .int x32_3)] → W p l e (rmk 3 0 0) s m args below meth c H locs 0 0 (MQ below ((QDw G (fun u : (Nat → Int32) => FAg u (A 1) (P2 ((A 1) 5).toInt)) (fun u : (Nat → Int32) => (mS cs h q F (vA A 27 u) D B))) A0) args s 0 0 A0) (F0 m 32 ls []) := by
            intro n
            induction n with
            | zero => intro x32_2 x32_3 H locs ls hmeas hx32_2 hx32_3 hbs hP hD hS hl; exact absurd hmeas (Nat.not_lt_zero _)
            | succ n ih32 =>
              intro x32_2 x32_3 H locs ls hmeas hx32_2 hx32_3 hbs hP hD hS hl
              refine lv_iload_n hx hb dX11_fillAsked_32 rfl (lv_at hl 3 rfl) ?_
              refine lv_bipush (v := 6) hx hb dX11_fillAsked_33 (by decide) ?_
              have B59 : ∀ (H : Heap) (locs : List Loc) (ls : Array Slot), va_P G vwCl (mS cs h q F (vA A 27 a27_2) D B) H → va_D A0 (mS cs h q F (vA A 27 a27_2) D B) → va_S A0 s.heap H locs → lv_has ls 4 [(0, .ref h), (1, .int x2_1), (2, .int x32_2)] → W p l e (rmk 3 0 0) s m args below meth c H locs 0 0 (MQ below ((QDw G (fun u : (Nat → Int32) => FAg u (A 1) (P2 ((A 1) 5).toInt)) (fun u : (Nat → Int32) => (mS cs h q F (vA A 27 u) D B))) A0) args s 0 0 A0) (F0 m 59 ls []) := by
                intro H locs ls hP hD hS hl
                refine lv_aload_n hx hb dX11_fillAsked_59 rfl (lv_at hl 0 rfl) ?_
                refine getF (v := .ref (q 27)) hx hb ht hown hK hP iTX11 0 27 rfl rfl (by decide) fl_RX11_58 rfl dX11_fillAsked_60 ?_
                refine lv_iload_n hx hb dX11_fillAsked_63 rfl (lv_at hl 1 rfl) ?_
                refine lv_iload_n hx hb dX11_fillAsked_64 rfl (lv_at hl 2 rfl) ?_
                refine va_iast hx hb hK.1 hP hD hS 15 0 rfl rfl (inK rfl (by omega) (by decide)) dX11_fillAsked_65 (fun H locs hP hD hS => ?_)
                have hP : va_P G vwCl (mS cs h q F (vA A 27 (upd a27_2 x2_1.toNatClampNeg x32_2)) D B) H := hP
                have hD : va_D A0 (mS cs h q F (vA A 27 (upd a27_2 x2_1.toNatClampNeg x32_2)) D B) := hD
                obtain ⟨g35001, eg35001⟩ : ∃ z : Nat → Int32, z = upd a27_2 x2_1.toNatClampNeg x32_2 := ⟨_, rfl⟩
                rw [← eg35001] at hP hD
                obtain ⟨v35002, ev35002⟩ : ∃ z : Int32, z = x2_1 + 1 := ⟨_, rfl⟩
                have tv35002 : v35002.toInt = x2_1.toInt + 1 := by rw [ev35002]; exact addT rfl (by decide) (by omega)
                refine lv_iinc (v := v35002) (lv' := [(1, .int v35002), (0, .ref h), (2, .int x32_2)]) hx hb dX11_fillAsked_66 hl (k := 1) rfl (by rw [ev35002]; rfl) (by decide) rfl (fun ls hl => ?_)
                refine lv_goto (tgt := 2) hx hb dX11_fillAsked_69 (by decide) ?_
                exact ih2 v35002 g35001 H locs ls (by omega) (by omega) (FAs hfa eg35001 (clK rfl (by omega)) (by omega) (nIc (by omega)).symm (hI.2 1 5).2 hbs tv35002) hP hD hS (lv_sub hl [1, 0] rfl)
              refine lv_icmp_ge (tgt := 59) hx hb dX11_fillAsked_35 (by decide) (fun c21001 => ?_) (fun c21001 => ?_)
              · have zc21001 := leK (show (6 : Int32).toInt = 6 by decide) rfl c21001
                exact B59 H locs ls hP hD hS (lv_sub hl [0, 1, 2] rfl)
              · have zc21001 := nleK (show (6 : Int32).toInt = 6 by decide) rfl c21001
                refine lv_iload_n hx hb dX11_fillAsked_38 rfl (lv_at hl 2 rfl) ?_
                refine lv_if_le (tgt := 59) hx hb dX11_fillAsked_39 (by decide) (fun c21002 => ?_) (fun c21002 => ?_)
                · have zc21002 := leK rfl (show (0 : Int32).toInt = 0 by decide) c21002
                  exact B59 H locs ls hP hD hS (lv_sub hl [0, 1, 2] rfl)
                · have zc21002 := nleK rfl (show (0 : Int32).toInt = 0 by decide) c21002
                  refine lv_iload_n hx hb dX11_fillAsked_42 rfl (lv_at hl 2 rfl) ?_
                  refine lv_aload_n hx hb dX11_fillAsked_43 rfl (lv_at hl 0 rfl) ?_
                  refine lv_iload_n hx hb dX11_fillAsked_44 rfl (lv_at hl 1 rfl) ?_
                  refine lv_iload_n hx hb dX11_fillAsked_45 rfl (lv_at hl 3 rfl) ?_
                  refine behR (runVP (As := [.int x2_1, .int x32_3]) (rest := [.int x32_2]) ⟨hx, hb, hml, hown, ht⟩ (sX11_askedBy l G cs h q F (vA A 27 a27_2) D B (IM_arr (k := 27) hI (fun _ => i32b _)) x2_1 x32_3 (by omega) (by omega)) okV_RX11_372 ⟨by decide, by decide⟩ hK hP [0, 1, 2, 3, 4, 5, 6, 7, 8, 9, 10, 11, 12, 13, 14, 15, 16, 17, 18, 19] rfl 0 rfl rfl hl.1 rfl (Nat.le_of_ble_eq_true rfl) dX11_fillAsked_46 ⟨by decide, by decide⟩) hP hS hA (fun r21003 H locs hr21003 hP hS => ?_)
                  have hr21003 : r21003 = AB6 a27_2 (A 1) x2_1 x32_3 := hr21003
                  refine va_mmin hx hb (by rw [hml]; exact hl.1.symm) hown (ht _ mth_RX11_124) (ht _ mth_min_st) (ht _ mth_in) (ht _ mth_min_co) (Nat.le_of_ble_eq_true rfl) (Nat.le_of_ble_eq_true rfl) (Nat.zero_le _) (Nat.zero_le _) dX11_fillAsked_49 ?_
                  refine lv_topi (fun v21004 ev21004 => ?_)
                  have tv21004 := minK (a := x32_2) (b := r21003)
                  rw [← ev21004] at tv21004
                  refine lv_istore_n (lv' := [(2, .int v21004), (0, .ref h), (1, .int x2_1), (3, .int x32_3)]) hx hb dX11_fillAsked_52 rfl hl (by decide) rfl (fun ls hl => ?_)
                  obtain ⟨v21005, ev21005⟩ : ∃ z : Int32, z = x32_3 + 1 := ⟨_, rfl⟩
                  have tv21005 : v21005.toInt = x32_3.toInt + 1 := by rw [ev21005]; exact addT rfl (by decide) (by omega)
                  refine lv_iinc (v := v21005) (lv' := [(3, .int v21005), (2, .int v21004), (0, .ref h), (1, .int x2_1)]) hx hb dX11_fillAsked_53 hl (k := 3) rfl (by rw [ev21005]; rfl) (by decide) rfl (fun ls hl => ?_)
                  refine lv_goto (tgt := 32) hx hb dX11_fillAsked_56 (by decide) ?_
                  exact ih32 v21004 v21005 H locs ls (by omega) (by omega) (by omega) (BSmin hbs hr21003 (by omega) ev21004) hP hD hS (lv_sub hl [2, 3, 1, 0] rfl)
          exact B32 _ s29_0 0 H locs ls (Nat.lt_succ_self _) (by omega) (by decide) (by have z9 := hs29; rcases z9 with z9 | z9; exact Or.inl z9; exact Or.inr (Or.inl (by omega))) hP hD hS (lv_sub hl [2, 3, 1, 0] rfl)
        refine lv_icmp_gt (tgt := 26) hx hb dX11_fillAsked_19 (by decide) (fun c3005 => ?_) (fun c3005 => ?_)
        · have zc3005 := ltK (show (1 : Int32).toInt = 1 by decide) rfl c3005
          refine lv_ldcw hx hb hown (ht _ ki_RX11_333) dX11_fillAsked_26 ?_
          exact B29 1000000000 H locs ls (by decide) (by decide) hP hD hS (lv_sub hl [0, 1] rfl)
        · have zc3005 := nltK (show (1 : Int32).toInt = 1 by decide) rfl c3005
          refine lv_iconst (v := 0) hx hb dX11_fillAsked_22 (by decide) ?_
          refine lv_goto (tgt := 29) hx hb dX11_fillAsked_23 (by decide) ?_
          exact B29 0 H locs ls (by decide) (by decide) hP hD hS (lv_sub hl [0, 1] rfl)
  exact B2 _ 0 (A 27) s.heap [] ls (Nat.lt_succ_self _) (by decide) (FAg0 (by decide)) hP hD hS (lv_sub hl [1, 0] rfl)

set_option maxRecDepth 100000 in
set_option maxHeartbeats 8000000 in
theorem sX11_which (l : Launch) (G : va_G) (cs : Nat → ClassId) (h : Nat) (q : Nat → Nat) (F : Nat → Int32) (A : Nat → Nat → Int32) (D : Int64) (B : Nat → Nat → Int64) (hI : IM F A) (a1 : Int32) : ImpI l yX11_which cX11_which 2 (some .int) 4 0 0 G (TY cs) [.ref h, .int a1] (mS cs h q F A D B) (fun (r : Int32) (u : (Nat → Int32)) => True) (fun u : (Nat → Int32) => (mS cs h q F (vA A 27 u) D B)) := by
  refine mkD (Qc := (QDi G (fun (r : Int32) (u : (Nat → Int32)) => True) (fun u : (Nat → Int32) => (mS cs h q F (vA A 27 u) D B)))) (by decide) (by simp [lg_sl, Value.category]) ?_
  intro p e s m args below meth c ls A0 hx hb hml hr hlk hown hmn ht hK hP hD hS hA hl
  have hl : lv_has ls 2 [(0, .ref h), (1, .int a1)] := hl
  refine lv_aload_n hx hb dX11_which_0 rfl (lv_at hl 0 rfl) ?_
  refine lv_iload_n hx hb dX11_which_1 rfl (lv_at hl 1 rfl) ?_
  refine behR (runVP (As := [.int a1]) (rest := []) ⟨hx, hb, hml, hown, ht⟩ (sX11_areMen l G cs h q F A D B hI a1 ) okV_RX11_375 ⟨by decide, by decide⟩ hK hP [0, 1, 2, 3, 4, 5, 6, 7, 8, 9, 10, 11, 12, 13, 14, 15, 16, 17, 18, 19] rfl 0 rfl rfl hl.1 rfl (Nat.le_of_ble_eq_true rfl) dX11_which_2 ⟨by decide, by decide⟩) hP hS hA (fun r1 H locs hr1 hP hS => ?_)
  have hr1 : (r1.toInt = 1 ∧ 1 ≤ a1.toInt ∧ a1.toInt ≤ 63 ∧ a1.toInt < P2 ((A 1) 5).toInt) ∨ r1.toInt = 0 := hr1
  refine lv_if_ne (tgt := 11) hx hb dX11_which_5 (by decide) (fun c2 => ?_) (fun c2 => ?_)
  · have zc2 := neK rfl (show (0 : Int32).toInt = 0 by decide) c2
    refine lv_aload_n hx hb dX11_which_11 rfl (lv_at hl 0 rfl) ?_
    refine behDw (wr := []) (runVD (As := []) (rest := []) ⟨hx, hb, hml, hown, ht⟩ (sX11_fillAsked l G cs h q F A D B hI  ) okV_RX11_378 ⟨by decide, by decide⟩ hK hP hD [0, 1, 2, 3, 4, 5, 6, 7, 8, 9, 10, 11, 12, 13, 14, 15, 16, 17, 18, 19] rfl (by decide) rfl 0 rfl rfl hl.1 rfl (Nat.le_of_ble_eq_true rfl) dX11_which_12 ⟨(Nat.le_of_ble_eq_true rfl), (Nat.le_of_ble_eq_true rfl)⟩) hP hD hS hA [0, 1, 2, 3, 4, 5, 6, 7, 8, 9, 10, 11, 12, 13, 14, 15, 16, 17, 18, 19] [] rfl rfl (by decide) (by decide) (fun u H locs hu hP hD hS => ?_)
    obtain ⟨g3, rfl⟩ : ∃ z, z = u := ⟨_, rfl⟩
    have hr4 := hu
    have hr4 : FAg g3 (A 1) (P2 ((A 1) 5).toInt) := hr4
    have hP : va_P G vwCl (mS cs h q F (vA A 27 g3) D B) H := hP
    have hD : va_D A0 (mS cs h q F (vA A 27 g3) D B) := hD
    refine lv_aload_n hx hb dX11_which_15 rfl (lv_at hl 0 rfl) ?_
    refine getF (v := .ref (q 27)) hx hb ht hown hK hP iTX11 0 27 rfl rfl (by decide) fl_RX11_58 rfl dX11_which_16 ?_
    refine lv_iload_n hx hb dX11_which_19 rfl (lv_at hl 1 rfl) ?_
    refine va_iald hx hb hK.1 hP 15 0 rfl rfl (inK rfl (by omega) (by decide)) dX11_which_20 ?_
    refine lv_topi (fun v5 ev5 => ?_)
    refine lv_ldcw hx hb hown (ht _ ki_RX11_333) dX11_which_21 ?_
    refine lv_icmp_lt (tgt := 31) hx hb dX11_which_24 (by decide) (fun c6 => ?_) (fun c6 => ?_)
    · have zc6 := ltK rfl (show (1000000000 : Int32).toInt = 1000000000 by decide) c6
      refine lv_aload_n hx hb dX11_which_31 rfl (lv_at hl 0 rfl) ?_
      refine getF (v := .ref (q 27)) hx hb ht hown hK hP iTX11 0 27 rfl rfl (by decide) fl_RX11_58 rfl dX11_which_32 ?_
      refine lv_iload_n hx hb dX11_which_35 rfl (lv_at hl 1 rfl) ?_
      refine va_iald hx hb hK.1 hP 15 0 rfl rfl (inK rfl (by omega) (by decide)) dX11_which_36 ?_
      refine lv_topi (fun v7 ev7 => ?_)
      exact retDi g3 hx hb hr hlk hP hD hS dX11_which_37 (trivial) (Nat.le_of_ble_eq_true rfl) (Nat.le_of_ble_eq_true rfl)
    · have zc6 := nltK rfl (show (1000000000 : Int32).toInt = 1000000000 by decide) c6
      refine lv_iconst (v := (-1)) hx hb dX11_which_27 (by decide) ?_
      refine lv_goto (tgt := 37) hx hb dX11_which_28 (by decide) ?_
      exact retDi g3 hx hb hr hlk hP hD hS dX11_which_37 (trivial) (Nat.le_of_ble_eq_true rfl) (Nat.le_of_ble_eq_true rfl)
  · have zc2 := eqK rfl (show (0 : Int32).toInt = 0 by decide) c2
    refine lv_bipush (v := (-2)) hx hb dX11_which_8 (by decide) ?_
    exact retDi (A 27) hx hb hr hlk hP hD hS dX11_which_10 (trivial) (Nat.le_of_ble_eq_true rfl) (Nat.le_of_ble_eq_true rfl)

set_option maxRecDepth 100000 in
set_option maxHeartbeats 8000000 in
theorem sX11_question (l : Launch) (G : va_G) (cs : Nat → ClassId) (h : Nat) (q : Nat → Nat) (F : Nat → Int32) (A : Nat → Nat → Int32) (D : Int64) (B : Nat → Nat → Int64) (hI : IM F A) (a1 : Int32) : ImpI l yX11_question cX11_question 3 (some .int) 4 0 0 G (TY cs) [.ref h, .int a1] (mS cs h q F A D B) (fun (r : Int32) (u : (Nat → Int32)) => True) (fun u : (Nat → Int32) => (mS cs h q F (vA A 27 u) D B)) := by
  refine mkD (Qc := (QDi G (fun (r : Int32) (u : (Nat → Int32)) => True) (fun u : (Nat → Int32) => (mS cs h q F (vA A 27 u) D B)))) (by decide) (by simp [lg_sl, Value.category]) ?_
  intro p e s m args below meth c ls A0 hx hb hml hr hlk hown hmn ht hK hP hD hS hA hl
  have hl : lv_has ls 3 [(0, .ref h), (1, .int a1)] := hl
  refine lv_aload_n hx hb dX11_question_0 rfl (lv_at hl 0 rfl) ?_
  refine lv_iload_n hx hb dX11_question_1 rfl (lv_at hl 1 rfl) ?_
  refine behR (runVP (As := [.int a1]) (rest := []) ⟨hx, hb, hml, hown, ht⟩ (sX11_areMen l G cs h q F A D B hI a1 ) okV_RX11_375 ⟨by decide, by decide⟩ hK hP [0, 1, 2, 3, 4, 5, 6, 7, 8, 9, 10, 11, 12, 13, 14, 15, 16, 17, 18, 19] rfl 0 rfl rfl hl.1 rfl (Nat.le_of_ble_eq_true rfl) dX11_question_2 ⟨by decide, by decide⟩) hP hS hA (fun r1 H locs hr1 hP hS => ?_)
  have hr1 : (r1.toInt = 1 ∧ 1 ≤ a1.toInt ∧ a1.toInt ≤ 63 ∧ a1.toInt < P2 ((A 1) 5).toInt) ∨ r1.toInt = 0 := hr1
  refine lv_if_ne (tgt := 11) hx hb dX11_question_5 (by decide) (fun c2 => ?_) (fun c2 => ?_)
  · have zc2 := neK rfl (show (0 : Int32).toInt = 0 by decide) c2
    refine lv_aload_n hx hb dX11_question_11 rfl (lv_at hl 0 rfl) ?_
    refine behDw (wr := []) (runVD (As := []) (rest := []) ⟨hx, hb, hml, hown, ht⟩ (sX11_fillAsked l G cs h q F A D B hI  ) okV_RX11_378 ⟨by decide, by decide⟩ hK hP hD [0, 1, 2, 3, 4, 5, 6, 7, 8, 9, 10, 11, 12, 13, 14, 15, 16, 17, 18, 19] rfl (by decide) rfl 0 rfl rfl hl.1 rfl (Nat.le_of_ble_eq_true rfl) dX11_question_12 ⟨(Nat.le_of_ble_eq_true rfl), (Nat.le_of_ble_eq_true rfl)⟩) hP hD hS hA [0, 1, 2, 3, 4, 5, 6, 7, 8, 9, 10, 11, 12, 13, 14, 15, 16, 17, 18, 19] [] rfl rfl (by decide) (by decide) (fun u H locs hu hP hD hS => ?_)
    obtain ⟨g3, rfl⟩ : ∃ z, z = u := ⟨_, rfl⟩
    have hr4 := hu
    have hr4 : FAg g3 (A 1) (P2 ((A 1) 5).toInt) := hr4
    have hP : va_P G vwCl (mS cs h q F (vA A 27 g3) D B) H := hP
    have hD : va_D A0 (mS cs h q F (vA A 27 g3) D B) := hD
    refine lv_aload_n hx hb dX11_question_15 rfl (lv_at hl 0 rfl) ?_
    refine getF (v := .ref (q 27)) hx hb ht hown hK hP iTX11 0 27 rfl rfl (by decide) fl_RX11_58 rfl dX11_question_16 ?_
    refine lv_iload_n hx hb dX11_question_19 rfl (lv_at hl 1 rfl) ?_
    refine va_iald hx hb hK.1 hP 15 0 rfl rfl (inK rfl (by omega) (by decide)) dX11_question_20 ?_
    refine lv_topi (fun v5 ev5 => ?_)
    have ev5 : v5 = g3 a1.toNatClampNeg := ev5
    have znv5 : v5.toInt = (g3 a1.toNatClampNeg).toInt := congrArg Int32.toInt ev5
    refine lv_if_eq (tgt := 36) hx hb dX11_question_21 (by decide) (fun c6 => ?_) (fun c6 => ?_)
    · have zc6 := eqK rfl (show (0 : Int32).toInt = 0 by decide) c6
      refine lv_iconst (v := (-1)) hx hb dX11_question_36 (by decide) ?_
      exact retDi g3 hx hb hr hlk hP hD hS dX11_question_37 (trivial) (Nat.le_of_ble_eq_true rfl) (Nat.le_of_ble_eq_true rfl)
    · have zc6 := neK rfl (show (0 : Int32).toInt = 0 by decide) c6
      refine lv_aload_n hx hb dX11_question_24 rfl (lv_at hl 0 rfl) ?_
      refine getF (v := .ref (q 27)) hx hb ht hown hK hP iTX11 0 27 rfl rfl (by decide) fl_RX11_58 rfl dX11_question_25 ?_
      refine lv_iload_n hx hb dX11_question_28 rfl (lv_at hl 1 rfl) ?_
      refine va_iald hx hb hK.1 hP 15 0 rfl rfl (inK rfl (by omega) (by decide)) dX11_question_29 ?_
      refine lv_topi (fun v7 ev7 => ?_)
      have ev7 : v7 = g3 a1.toNatClampNeg := ev7
      have znv7 : v7.toInt = (g3 a1.toNatClampNeg).toInt := congrArg Int32.toInt ev7
      refine lv_ldcw hx hb hown (ht _ ki_RX11_333) dX11_question_30 ?_
      refine lv_icmp_lt (tgt := 38) hx hb dX11_question_33 (by decide) (fun c8 => ?_) (fun c8 => ?_)
      · have zc8 := ltK rfl (show (1000000000 : Int32).toInt = 1000000000 by decide) c8
        refine lv_iconst (v := 0) hx hb dX11_question_38 (by decide) ?_
        refine lv_istore_n (lv' := [(2, .int 0), (0, .ref h), (1, .int a1)]) hx hb dX11_question_39 rfl hl (by decide) rfl (fun ls hl => ?_)
        have B40 : ∀ (n : Nat) (x40_2 : Int32) (H : Heap) (locs : List Loc) (ls : Array Slot), (5 - x40_2.toInt).toNat < n → (0 : Int) ≤ x40_2.toInt ∧ x40_2.toInt ≤ 5 → (∃ z : Int32, x40_2.toInt ≤ z.toInt ∧ z.toInt ≤ 5 ∧ AB6 g3 (A 1) a1 z = g3 a1.toNatClampNeg) → va_P G vwCl (mS cs h q F (vA A 27 g3) D B) H → va_D A0 (mS cs h q F (vA A 27 g3) D B) → va_S A0 s.heap H locs → lv_has ls 3 [(0, .ref h), (1, .int a1), (2, .int x40_2)] → W p l e (rmk 4 0 0) s m args below meth c H locs 0 0 (MQ below ((QDi G (fun (r : Int32) (u : (Nat → Int32)) => True) (fun u : (Nat → Int32) => (mS cs h q F (vA A 27 u) D B))) A0) args s 0 0 A0) (F0 m 40 ls []) := by
          intro n
          induction n with
          | zero => intro x40_2 H locs ls hmeas hx40_2 hwt hP hD hS hl; exact absurd hmeas (Nat.not_lt_zero _)
          | succ n ih40 =>
            intro x40_2 H locs ls hmeas hx40_2 hwt hP hD hS hl
            refine lv_aload_n hx hb dX11_question_40 rfl (lv_at hl 0 rfl) ?_
            refine lv_iload_n hx hb dX11_question_41 rfl (lv_at hl 1 rfl) ?_
            refine lv_iload_n hx hb dX11_question_42 rfl (lv_at hl 2 rfl) ?_
            refine behR (runVP (As := [.int a1, .int x40_2]) (rest := []) ⟨hx, hb, hml, hown, ht⟩ (sX11_askedBy l G cs h q F (vA A 27 g3) D B (IM_arr (k := 27) hI (fun _ => i32b _)) a1 x40_2 (by omega) (by omega)) okV_RX11_372 ⟨by decide, by decide⟩ hK hP [0, 1, 2, 3, 4, 5, 6, 7, 8, 9, 10, 11, 12, 13, 14, 15, 16, 17, 18, 19] rfl 0 rfl rfl hl.1 rfl (Nat.le_of_ble_eq_true rfl) dX11_question_43 ⟨by decide, by decide⟩) hP hS hA (fun r22001 H locs hr22001 hP hS => ?_)
            have hr22001 : r22001 = AB6 g3 (A 1) a1 x40_2 := hr22001
            refine lv_aload_n hx hb dX11_question_46 rfl (lv_at hl 0 rfl) ?_
            refine getF (v := .ref (q 27)) hx hb ht hown hK hP iTX11 0 27 rfl rfl (by decide) fl_RX11_58 rfl dX11_question_47 ?_
            refine lv_iload_n hx hb dX11_question_50 rfl (lv_at hl 1 rfl) ?_
            refine va_iald hx hb hK.1 hP 15 0 rfl rfl (inK rfl (by omega) (by decide)) dX11_question_51 ?_
            refine lv_topi (fun v22002 ev22002 => ?_)
            have ev22002 : v22002 = g3 a1.toNatClampNeg := ev22002
            have znv22002 : v22002.toInt = (g3 a1.toNatClampNeg).toInt := congrArg Int32.toInt ev22002
            refine lv_icmp_eq (tgt := 61) hx hb dX11_question_52 (by decide) (fun c22003 => ?_) (fun c22003 => ?_)
            · have zc22003 := eqK rfl rfl c22003
              refine lv_iload_n hx hb dX11_question_61 rfl (lv_at hl 2 rfl) ?_
              exact retDi g3 hx hb hr hlk hP hD hS dX11_question_62 (trivial) (Nat.le_of_ble_eq_true rfl) (Nat.le_of_ble_eq_true rfl)
            · have zc22003 := neK rfl rfl c22003
              have hz9 := qle hwt hr22001 ev22002 (by omega)
              obtain ⟨v22004, ev22004⟩ : ∃ z : Int32, z = x40_2 + 1 := ⟨_, rfl⟩
              have tv22004 : v22004.toInt = x40_2.toInt + 1 := by rw [ev22004]; exact addT rfl (by decide) (by omega)
              refine lv_iinc (v := v22004) (lv' := [(2, .int v22004), (0, .ref h), (1, .int a1)]) hx hb dX11_question_55 hl (k := 2) rfl (by rw [ev22004]; rfl) (by decide) rfl (fun ls hl => ?_)
              refine lv_goto (tgt := 40) hx hb dX11_question_58 (by decide) ?_
              exact ih40 v22004 H locs ls (by omega) (by omega) (qstep hwt hr22001 ev22002 (by omega) tv22004) hP hD hS (lv_sub hl [1, 2, 0] rfl)
        exact B40 _ 0 H locs ls (Nat.lt_succ_self _) (by decide) (qinit hr4 (by omega) (by omega) ev7 (by omega) (by omega) (by decide)) hP hD hS (lv_sub hl [1, 2, 0] rfl)
      · have zc8 := nltK rfl (show (1000000000 : Int32).toInt = 1000000000 by decide) c8
        refine lv_iconst (v := (-1)) hx hb dX11_question_36 (by decide) ?_
        exact retDi g3 hx hb hr hlk hP hD hS dX11_question_37 (trivial) (Nat.le_of_ble_eq_true rfl) (Nat.le_of_ble_eq_true rfl)
  · have zc2 := eqK rfl (show (0 : Int32).toInt = 0 by decide) c2
    refine lv_bipush (v := (-2)) hx hb dX11_question_8 (by decide) ?_
    exact retDi (A 27) hx hb hr hlk hP hD hS dX11_question_10 (trivial) (Nat.le_of_ble_eq_true rfl) (Nat.le_of_ble_eq_true rfl)

set_option maxRecDepth 100000 in
set_option maxHeartbeats 8000000 in
theorem sX11_yes (l : Launch) (G : va_G) (cs : Nat → ClassId) (h : Nat) (q : Nat → Nat) (F : Nat → Int32) (A : Nat → Nat → Int32) (D : Int64) (B : Nat → Nat → Int64) (hI : IM F A) (a1 : Int32) (a2 : Int32) : SafeR l yX11_yes cX11_yes 3 (some .int) 2 G (TY cs) [.ref h, .int a1, .int a2] (mS cs h q F A D B) (fun r : Int32 => True) := by
  refine mkP (Qc := QRi (fun r : Int32 => True)) (by decide) (by simp [lg_sl, Value.category]) ?_
  intro p e s m args below meth c ls hx hb hml hr hlk hown ht hK hP hS hl
  have hl : lv_has ls 3 [(0, .ref h), (1, .int a1), (2, .int a2)] := hl
  refine lv_aload_n hx hb dX11_yes_0 rfl (lv_at hl 0 rfl) ?_
  refine lv_iload_n hx hb dX11_yes_1 rfl (lv_at hl 1 rfl) ?_
  refine behR (runVP (As := [.int a1]) (rest := []) ⟨hx, hb, hml, hown, ht⟩ (sX11_areMen l G cs h q F A D B hI a1 ) okV_RX11_375 ⟨by decide, by decide⟩ hK hP [0, 1, 2, 3, 4, 5, 6, 7, 8, 9, 10, 11, 12, 13, 14, 15, 16, 17, 18, 19] rfl 0 rfl rfl hl.1 rfl (Nat.le_of_ble_eq_true rfl) dX11_yes_2 ⟨by decide, by decide⟩) hP hS (fun _ h => h) (fun r1 H locs hr1 hP hS => ?_)
  have hr1 : (r1.toInt = 1 ∧ 1 ≤ a1.toInt ∧ a1.toInt ≤ 63 ∧ a1.toInt < P2 ((A 1) 5).toInt) ∨ r1.toInt = 0 := hr1
  refine lv_if_eq (tgt := 29) hx hb dX11_yes_5 (by decide) (fun c2 => ?_) (fun c2 => ?_)
  · have zc2 := eqK rfl (show (0 : Int32).toInt = 0 by decide) c2
    refine lv_bipush (v := (-2)) hx hb dX11_yes_29 (by decide) ?_
    exact retRi hx hb hr hlk hS dX11_yes_31 (trivial)
  · have zc2 := neK rfl (show (0 : Int32).toInt = 0 by decide) c2
    refine lv_iload_n hx hb dX11_yes_8 rfl (lv_at hl 2 rfl) ?_
    refine lv_i2l hx hb dX11_yes_9 rfl ?_
    have bb3 := i32b a2
    refine lv_topl (fun v4 ev4 => ?_)
    have tv4 : v4.toInt = a2.toInt := by rw [ev4]; exact Int32.toInt_toInt64 _
    refine lv_lconst (v := 0) hx hb dX11_yes_10 (by decide) ?_
    refine lv_ldc2 hx hb hown (ht _ kl_RX11_325) dX11_yes_11 ?_
    refine behR (runSP (As := [.long v4, .long 0, .long 5]) (rest := []) ⟨hx, hb, hml, hown, ht⟩ (sX11_in l G cs v4 0 5 ) okS_RX11_79 ⟨by decide, by decide⟩ hK hP [] rfl hl.1 rfl (Nat.le_of_ble_eq_true rfl) dX11_yes_14 ⟨by decide, by decide⟩) hP hS (fun _ h => h) (fun r5 H locs hr5 hP hS => ?_)
    have kk6 : (0 : Int64).toInt = 0 := by decide
    have kk7 : (5 : Int64).toInt = 5 := by decide
    have hr5 : (r5.toInt = 1 ∧ (0 : Int64).toInt ≤ v4.toInt ∧ v4.toInt ≤ (5 : Int64).toInt) ∨ (r5.toInt = 0 ∧ (v4.toInt < (0 : Int64).toInt ∨ (5 : Int64).toInt < v4.toInt)) := hr5
    refine lv_if_eq (tgt := 29) hx hb dX11_yes_17 (by decide) (fun c8 => ?_) (fun c8 => ?_)
    · have zc8 := eqK rfl (show (0 : Int32).toInt = 0 by decide) c8
      refine lv_bipush (v := (-2)) hx hb dX11_yes_29 (by decide) ?_
      exact retRi hx hb hr hlk hS dX11_yes_31 (trivial)
    · have zc8 := neK rfl (show (0 : Int32).toInt = 0 by decide) c8
      refine lv_aload_n hx hb dX11_yes_20 rfl (lv_at hl 0 rfl) ?_
      refine lv_iload_n hx hb dX11_yes_21 rfl (lv_at hl 1 rfl) ?_
      refine lv_iload_n hx hb dX11_yes_22 rfl (lv_at hl 2 rfl) ?_
      refine behR (runVP (As := [.int a1, .int a2]) (rest := []) ⟨hx, hb, hml, hown, ht⟩ (sX11_saying l G cs h q F A D B hI a1 a2 (by omega) (by omega)) okV_RX11_366 ⟨by decide, by decide⟩ hK hP [0, 1, 2, 3, 4, 5, 6, 7, 8, 9, 10, 11, 12, 13, 14, 15, 16, 17, 18, 19] rfl 0 rfl rfl hl.1 rfl (Nat.le_of_ble_eq_true rfl) dX11_yes_23 ⟨by decide, by decide⟩) hP hS (fun _ h => h) (fun r9 H locs hr9 hP hS => ?_)
      have hr9 : r9 = SYF (A 1) a1 a2 ((A 1) 5).toNatClampNeg ∧ (0 : Int) ≤ r9.toInt ∧ r9.toInt ≤ 63 := hr9
      refine lv_goto (tgt := 31) hx hb dX11_yes_26 (by decide) ?_
      exact retRi hx hb hr hlk hS dX11_yes_31 (trivial)

set_option maxRecDepth 100000 in
set_option maxHeartbeats 8000000 in
theorem sX11_tellsApart (l : Launch) (G : va_G) (cs : Nat → ClassId) (h : Nat) (q : Nat → Nat) (F : Nat → Int32) (A : Nat → Nat → Int32) (D : Int64) (B : Nat → Nat → Int64) (hI : IM F A) (a1 : Int32) (a2 : Int32) : SafeR l yX11_tellsApart cX11_tellsApart 5 (some .boolean) 1 G (TY cs) [.ref h, .int a1, .int a2] (mS cs h q F A D B) (fun r : Int32 => (0 : Int) ≤ r.toInt ∧ r.toInt ≤ 1) := by
  refine mkP (Qc := QRi (fun r : Int32 => (0 : Int) ≤ r.toInt ∧ r.toInt ≤ 1)) (by decide) (by simp [lg_sl, Value.category]) ?_
  intro p e s m args below meth c ls hx hb hml hr hlk hown ht hK hP hS hl
  have hl : lv_has ls 5 [(0, .ref h), (1, .int a1), (2, .int a2)] := hl
  refine lv_iconst (v := 0) hx hb dX11_tellsApart_0 (by decide) ?_
  refine lv_istore_n (lv' := [(3, .int 0), (0, .ref h), (1, .int a1), (2, .int a2)]) hx hb dX11_tellsApart_1 rfl hl (by decide) rfl (fun ls hl => ?_)
  have B2 : ∀ (n : Nat) (x2_3 : Int32) (H : Heap) (locs : List Loc) (ls : Array Slot), (6 - x2_3.toInt).toNat < n → (0 : Int) ≤ x2_3.toInt ∧ x2_3.toInt ≤ 6 → va_P G vwCl (mS cs h q F A D B) H → va_S (fun q => s.heap.size ≤ q) s.heap H locs → lv_has ls 5 [(0, .ref h), (1, .int a1), (2, .int a2), (3, .int x2_3)] → W p l e (rmk 1 0 0) s m args below meth c H locs 0 0 (MQ below (QRi (fun r : Int32 => (0 : Int) ≤ r.toInt ∧ r.toInt ≤ 1) s.heap.size) args s 0 0 (fun q => s.heap.size ≤ q)) (F0 m 2 ls []) := by
    intro n
    induction n with
    | zero => intro x2_3 H locs ls hmeas hx2_3 hP hS hl; exact absurd hmeas (Nat.not_lt_zero _)
    | succ n ih2 =>
      intro x2_3 H locs ls hmeas hx2_3 hP hS hl
      refine lv_iload_n hx hb dX11_tellsApart_2 rfl (lv_at hl 3 rfl) ?_
      refine lv_aload_n hx hb dX11_tellsApart_3 rfl (lv_at hl 0 rfl) ?_
      refine getF (v := .ref (q 1)) hx hb ht hown hK hP iTX11 0 1 rfl rfl (by decide) fl_RX11_9 rfl dX11_tellsApart_4 ?_
      refine lv_iconst (v := 5) hx hb dX11_tellsApart_7 (by decide) ?_
      refine va_iald hx hb hK.1 hP 1 0 rfl rfl (show ¬ (_ ∨ _) by decide) dX11_tellsApart_8 ?_
      refine W.eq (g2 := F0 m 9 ls [.int (A 1 5), .int x2_3]) rfl ?_
      have zf3001 : (0 : Int) ≤ (A 1 5).toInt ∧ (A 1 5).toInt ≤ 6 := (hI.2 1 5)
      refine lv_icmp_ge (tgt := 73) hx hb dX11_tellsApart_9 (by decide) (fun c3002 => ?_) (fun c3002 => ?_)
      · have zc3002 := leK rfl rfl c3002
        refine lv_iconst (v := 1) hx hb dX11_tellsApart_73 (by decide) ?_
        exact retRz hx hb hr hlk hS dX11_tellsApart_74 (rfl) (show (0 : Int) ≤ (1 : Int32).toInt ∧ (1 : Int32).toInt ≤ 1 by have kk : (1 : Int32).toInt = 1 := (by decide); omega)
      · have zc3002 := nleK rfl rfl c3002
        refine lv_iconst (v := 0) hx hb dX11_tellsApart_12 (by decide) ?_
        refine lv_istore (lv' := [(4, .int 0), (0, .ref h), (1, .int a1), (2, .int a2), (3, .int x2_3)]) hx hb dX11_tellsApart_13 hl (by decide) rfl (fun ls hl => ?_)
        have B15 : ∀ (n : Nat) (x15_4 : Int32) (H : Heap) (locs : List Loc) (ls : Array Slot), (5 - x15_4.toInt).toNat < n → (0 : Int) ≤ x15_4.toInt ∧ x15_4.toInt ≤ 5 → va_P G vwCl (mS cs h q F A D B) H → va_S (fun q => s.heap.size ≤ q) s.heap H locs → lv_has ls 5 [(0, .ref h), (1, .int a1), (2, .int a2), (3, .int x2_3), (4, .int x15_4)] → W p l e (rmk 1 0 0) s m args below meth c H locs 0 0 (MQ below (QRi (fun r : Int32 => (0 : Int) ≤ r.toInt ∧ r.toInt ≤ 1) s.heap.size) args s 0 0 (fun q => s.heap.size ≤ q)) (F0 m 15 ls []) := by
          intro n
          induction n with
          | zero => intro x15_4 H locs ls hmeas hx15_4 hP hS hl; exact absurd hmeas (Nat.not_lt_zero _)
          | succ n ih15 =>
            intro x15_4 H locs ls hmeas hx15_4 hP hS hl
            refine lv_iload hx hb dX11_tellsApart_15 (lv_at hl 4 rfl) ?_
            refine lv_iload_n hx hb dX11_tellsApart_17 rfl (lv_at hl 3 rfl) ?_
            refine lv_icmp_ge (tgt := 67) hx hb dX11_tellsApart_18 (by decide) (fun c11001 => ?_) (fun c11001 => ?_)
            · have zc11001 := leK rfl rfl c11001
              obtain ⟨v11002, ev11002⟩ : ∃ z : Int32, z = x2_3 + 1 := ⟨_, rfl⟩
              have tv11002 : v11002.toInt = x2_3.toInt + 1 := by rw [ev11002]; exact addT rfl (by decide) (by omega)
              refine lv_iinc (v := v11002) (lv' := [(3, .int v11002), (0, .ref h), (1, .int a1), (2, .int a2), (4, .int x15_4)]) hx hb dX11_tellsApart_67 hl (k := 3) rfl (by rw [ev11002]; rfl) (by decide) rfl (fun ls hl => ?_)
              refine lv_goto (tgt := 2) hx hb dX11_tellsApart_70 (by decide) ?_
              exact ih2 v11002 H locs ls (by omega) (by omega) hP hS (lv_sub hl [1, 2, 3, 0] rfl)
            · have zc11001 := nleK rfl rfl c11001
              refine lv_iload_n hx hb dX11_tellsApart_21 rfl (lv_at hl 1 rfl) ?_
              refine lv_iload_n hx hb dX11_tellsApart_22 rfl (lv_at hl 3 rfl) ?_
              refine behR (runSP (As := [.int a1, .int x2_3]) (rest := []) ⟨hx, hb, hml, hown, ht⟩ (sX11_bit l G cs a1 x2_3 ) okS_RX11_258 ⟨by decide, by decide⟩ hK hP [] rfl hl.1 rfl (Nat.le_of_ble_eq_true rfl) dX11_tellsApart_23 ⟨by decide, by decide⟩) hP hS (fun _ h => h) (fun r11003 H locs hr11003 hP hS => ?_)
              have hr11003 : r11003 = bitE a1 x2_3 ∧ (0 : Int) ≤ r11003.toInt ∧ r11003.toInt ≤ 1 := hr11003
              refine lv_iconst (v := 1) hx hb dX11_tellsApart_26 (by decide) ?_
              have B61 : ∀ (H : Heap) (locs : List Loc) (ls : Array Slot), va_P G vwCl (mS cs h q F A D B) H → va_S (fun q => s.heap.size ≤ q) s.heap H locs → lv_has ls 5 [(0, .ref h), (1, .int a1), (2, .int a2), (3, .int x2_3), (4, .int x15_4)] → W p l e (rmk 1 0 0) s m args below meth c H locs 0 0 (MQ below (QRi (fun r : Int32 => (0 : Int) ≤ r.toInt ∧ r.toInt ≤ 1) s.heap.size) args s 0 0 (fun q => s.heap.size ≤ q)) (F0 m 61 ls []) := by
                intro H locs ls hP hS hl
                obtain ⟨v38001, ev38001⟩ : ∃ z : Int32, z = x15_4 + 1 := ⟨_, rfl⟩
                have tv38001 : v38001.toInt = x15_4.toInt + 1 := by rw [ev38001]; exact addT rfl (by decide) (by omega)
                refine lv_iinc (v := v38001) (lv' := [(4, .int v38001), (0, .ref h), (1, .int a1), (2, .int a2), (3, .int x2_3)]) hx hb dX11_tellsApart_61 hl (k := 4) rfl (by rw [ev38001]; rfl) (by decide) rfl (fun ls hl => ?_)
                refine lv_goto (tgt := 15) hx hb dX11_tellsApart_64 (by decide) ?_
                exact ih15 v38001 H locs ls (by omega) (by omega) hP hS (lv_sub hl [1, 2, 3, 4, 0] rfl)
              refine lv_icmp_ne (tgt := 61) hx hb dX11_tellsApart_27 (by decide) (fun c11004 => ?_) (fun c11004 => ?_)
              · have zc11004 := neK rfl (show (1 : Int32).toInt = 1 by decide) c11004
                exact B61 H locs ls hP hS (lv_sub hl [0, 1, 2, 3, 4] rfl)
              · have zc11004 := eqK rfl (show (1 : Int32).toInt = 1 by decide) c11004
                refine lv_iload_n hx hb dX11_tellsApart_30 rfl (lv_at hl 1 rfl) ?_
                refine lv_iload hx hb dX11_tellsApart_31 (lv_at hl 4 rfl) ?_
                refine behR (runSP (As := [.int a1, .int x15_4]) (rest := []) ⟨hx, hb, hml, hown, ht⟩ (sX11_bit l G cs a1 x15_4 ) okS_RX11_258 ⟨by decide, by decide⟩ hK hP [] rfl hl.1 rfl (Nat.le_of_ble_eq_true rfl) dX11_tellsApart_33 ⟨by decide, by decide⟩) hP hS (fun _ h => h) (fun r11005 H locs hr11005 hP hS => ?_)
                have hr11005 : r11005 = bitE a1 x15_4 ∧ (0 : Int) ≤ r11005.toInt ∧ r11005.toInt ≤ 1 := hr11005
                refine lv_iconst (v := 1) hx hb dX11_tellsApart_36 (by decide) ?_
                refine lv_icmp_ne (tgt := 61) hx hb dX11_tellsApart_37 (by decide) (fun c11006 => ?_) (fun c11006 => ?_)
                · have zc11006 := neK rfl (show (1 : Int32).toInt = 1 by decide) c11006
                  exact B61 H locs ls hP hS (lv_sub hl [0, 1, 2, 3, 4] rfl)
                · have zc11006 := eqK rfl (show (1 : Int32).toInt = 1 by decide) c11006
                  refine lv_aload_n hx hb dX11_tellsApart_40 rfl (lv_at hl 0 rfl) ?_
                  refine lv_iload_n hx hb dX11_tellsApart_41 rfl (lv_at hl 3 rfl) ?_
                  refine lv_iconst (v := 1) hx hb dX11_tellsApart_42 (by decide) ?_
                  refine behR (runVP (As := [.int x2_3, .int 1]) (rest := []) ⟨hx, hb, hml, hown, ht⟩ (sX11_ofMan l G cs h q F A D B hI x2_3 1 (by omega) (by decide)) okV_RX11_234 ⟨by decide, by decide⟩ hK hP [0, 1, 2, 3, 4, 5, 6, 7, 8, 9, 10, 11, 12, 13, 14, 15, 16, 17, 18, 19] rfl 0 rfl rfl hl.1 rfl (Nat.le_of_ble_eq_true rfl) dX11_tellsApart_43 ⟨by decide, by decide⟩) hP hS (fun _ h => h) (fun r11007 H locs hr11007 hP hS => ?_)
                  have kk11008 : (1 : Int32).toInt = 1 := by decide
                  have hr11007 : r11007 = (A 1) (36 + 8 * x2_3.toNatClampNeg + (1 : Int32).toNatClampNeg) ∧ (0 : Int) ≤ r11007.toInt ∧ r11007.toInt ≤ 99 ∧ ((1 : Int32).toInt = 1 → r11007.toInt ≤ 63) ∧ (2 ≤ (1 : Int32).toInt → r11007.toInt ≤ 9) := hr11007
                  refine lv_aload_n hx hb dX11_tellsApart_46 rfl (lv_at hl 0 rfl) ?_
                  refine lv_iload hx hb dX11_tellsApart_47 (lv_at hl 4 rfl) ?_
                  refine lv_iconst (v := 1) hx hb dX11_tellsApart_49 (by decide) ?_
                  refine behR (runVP (As := [.int x15_4, .int 1]) (rest := [.int r11007]) ⟨hx, hb, hml, hown, ht⟩ (sX11_ofMan l G cs h q F A D B hI x15_4 1 (by omega) (by decide)) okV_RX11_234 ⟨by decide, by decide⟩ hK hP [0, 1, 2, 3, 4, 5, 6, 7, 8, 9, 10, 11, 12, 13, 14, 15, 16, 17, 18, 19] rfl 0 rfl rfl hl.1 rfl (Nat.le_of_ble_eq_true rfl) dX11_tellsApart_50 ⟨by decide, by decide⟩) hP hS (fun _ h => h) (fun r11009 H locs hr11009 hP hS => ?_)
                  have kk11010 : (1 : Int32).toInt = 1 := by decide
                  have hr11009 : r11009 = (A 1) (36 + 8 * x15_4.toNatClampNeg + (1 : Int32).toNatClampNeg) ∧ (0 : Int) ≤ r11009.toInt ∧ r11009.toInt ≤ 99 ∧ ((1 : Int32).toInt = 1 → r11009.toInt ≤ 63) ∧ (2 ≤ (1 : Int32).toInt → r11009.toInt ≤ 9) := hr11009
                  refine lv_ixor hx hb dX11_tellsApart_53 ?_
                  refine lv_topi (fun v11011 ev11011 => ?_)
                  have tv11011 : 0 ≤ v11011.toInt ∧ v11011.toInt ≤ 63 := by rw [ev11011]; exact xorA 6 rfl rfl (by omega) (by omega) (by decide)
                  refine lv_iload_n hx hb dX11_tellsApart_54 rfl (lv_at hl 2 rfl) ?_
                  refine lv_iand hx hb dX11_tellsApart_55 ?_
                  refine lv_topi (fun v11012 ev11012 => ?_)
                  have tv11012 : 0 ≤ v11012.toInt ∧ v11012.toInt ≤ 63 := by rw [ev11012]; exact andA 6 rfl (by omega) (by decide)
                  refine lv_if_ne (tgt := 61) hx hb dX11_tellsApart_56 (by decide) (fun c11013 => ?_) (fun c11013 => ?_)
                  · have zc11013 := neK rfl (show (0 : Int32).toInt = 0 by decide) c11013
                    exact B61 H locs ls hP hS (lv_sub hl [0, 1, 2, 3, 4] rfl)
                  · have zc11013 := eqK rfl (show (0 : Int32).toInt = 0 by decide) c11013
                    refine lv_iconst (v := 0) hx hb dX11_tellsApart_59 (by decide) ?_
                    exact retRz hx hb hr hlk hS dX11_tellsApart_60 (rfl) (show (0 : Int) ≤ (0 : Int32).toInt ∧ (0 : Int32).toInt ≤ 1 by have kk : (0 : Int32).toInt = 0 := (by decide); omega)
        exact B15 _ 0 H locs ls (Nat.lt_succ_self _) (by decide) hP hS (lv_sub hl [1, 2, 3, 4, 0] rfl)
  exact B2 _ 0 s.heap [] ls (Nat.lt_succ_self _) (by decide) hP hS (lv_sub hl [1, 2, 3, 0] rfl)

