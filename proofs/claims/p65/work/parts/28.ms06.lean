set_option maxRecDepth 100000 in
set_option maxHeartbeats 8000000 in
theorem sX11_nextWay (l : Launch) (G : va_G) (cs : Nat → ClassId) (h : Nat) (q : Nat → Nat) (F : Nat → Int32) (A : Nat → Nat → Int32) (D : Int64) (B : Nat → Nat → Int64) (hI : IM F A) (a1 : Int32) (ha1 : (0 : Int) ≤ a1.toInt ∧ a1.toInt ≤ 5) : ImpI l yX11_nextWay cX11_nextWay 3 (some .boolean) 0 0 0 G (TY cs) [.ref h, .int a1] (mS cs h q F A D B) (fun (r : Int32) (u : (Nat → Int32)) => AI 19 u ∧ (((0 : Int) ≤ r.toInt ∧ r.toInt ≤ 1) ∧ (r.toInt = 1 → W5 (A 19) + 1 ≤ W5 u))) (fun u : (Nat → Int32) => (mS cs h q F (vA A 19 u) D B)) := by
  refine mkD (Qc := (QDi G (fun (r : Int32) (u : (Nat → Int32)) => AI 19 u ∧ (((0 : Int) ≤ r.toInt ∧ r.toInt ≤ 1) ∧ (r.toInt = 1 → W5 (A 19) + 1 ≤ W5 u))) (fun u : (Nat → Int32) => (mS cs h q F (vA A 19 u) D B)))) (by decide) (by simp [lg_sl, Value.category]) ?_
  intro p e s m args below meth c ls A0 hx hb hml hr hlk hown hmn ht hK hP hD hS hA hl
  have hl : lv_has ls 3 [(0, .ref h), (1, .int a1)] := hl
  refine lv_iload_n hx hb dX11_nextWay_0 rfl (lv_at hl 1 rfl) ?_
  refine lv_iconst (v := 1) hx hb dX11_nextWay_1 (by decide) ?_
  refine lv_isub hx hb dX11_nextWay_2 ?_
  refine lv_topi (fun v1 ev1 => ?_)
  have tv1 : v1.toInt = a1.toInt - 1 := by rw [ev1]; exact subT rfl (show (1 : Int32).toInt = 1 by decide) (by omega)
  refine lv_istore_n (lv' := [(2, .int v1), (0, .ref h), (1, .int a1)]) hx hb dX11_nextWay_3 rfl hl (by decide) rfl (fun ls hl => ?_)
  have B4 : ∀ (n : Nat) (x4_2 : Int32) (a19_4 : (Nat → Int32)) (H : Heap) (locs : List Loc) (ls : Array Slot), (x4_2.toInt - (-1)).toNat < n → (-1 : Int) ≤ x4_2.toInt ∧ x4_2.toInt ≤ 4 → AI 19 a19_4 → (W5 (A 19) + 1 ≤ W5 a19_4 + q7 x4_2.toInt) → va_P G vwCl (mS cs h q F (vA A 19 a19_4) D B) H → va_D A0 (mS cs h q F (vA A 19 a19_4) D B) → va_S A0 s.heap H locs → lv_has ls 3 [(0, .ref h), (2, .int x4_2)] → W p l e (rmk 0 0 0) s m args below meth c H locs 0 0 (MQ below ((QDi G (fun (r : Int32) (u : (Nat → Int32)) => AI 19 u ∧ (((0 : Int) ≤ r.toInt ∧ r.toInt ≤ 1) ∧ (r.toInt = 1 → W5 (A 19) + 1 ≤ W5 u))) (fun u : (Nat → Int32) => (mS cs h q F (vA A 19 u) D B))) A0) args s 0 0 A0) (F0 m 4 ls []) := by
    intro n
    induction n with
    | zero => intro x4_2 a19_4 H locs ls hmeas hx4_2 ha19_4 hw5 hP hD hS hl; exact absurd hmeas (Nat.not_lt_zero _)
    | succ n ih4 =>
      intro x4_2 a19_4 H locs ls hmeas hx4_2 ha19_4 hw5 hP hD hS hl
      refine lv_iload_n hx hb dX11_nextWay_4 rfl (lv_at hl 1 rfl) ?_
      refine lv_if_lt (tgt := 48) hx hb dX11_nextWay_5 (by decide) (fun c5001 => ?_) (fun c5001 => ?_)
      · have zc5001 := ltK rfl (show (0 : Int32).toInt = 0 by decide) c5001
        refine lv_iconst (v := 0) hx hb dX11_nextWay_48 (by decide) ?_
        exact retDz a19_4 hx hb hr hlk hP hD hS dX11_nextWay_49 (rfl) (⟨ha19_4, ⟨by decide, fun q9 => absurd q9 (by decide)⟩⟩) (Nat.le_of_ble_eq_true rfl) (Nat.le_of_ble_eq_true rfl)
      · have zc5001 := nltK rfl (show (0 : Int32).toInt = 0 by decide) c5001
        refine lv_aload_n hx hb dX11_nextWay_8 rfl (lv_at hl 0 rfl) ?_
        refine getF (v := .ref (q 19)) hx hb ht hown hK hP iTX11 0 19 rfl rfl (by decide) fl_RX11_40 rfl dX11_nextWay_9 ?_
        refine lv_iload_n hx hb dX11_nextWay_12 rfl (lv_at hl 1 rfl) ?_
        refine lv_dup2_11 hx hb dX11_nextWay_13 rfl rfl ?_
        refine va_iald hx hb hK.1 hP 9 0 rfl rfl (inK rfl (by omega) (by decide)) dX11_nextWay_14 ?_
        refine lv_topi (fun v5002 ev5002 => ?_)
        have ev5002 : v5002 = a19_4 x4_2.toNatClampNeg := ev5002
        have zf5003 : (0 : Int) ≤ v5002.toInt ∧ v5002.toInt ≤ 6 := by rw [ev5002]; exact (ha19_4 _)
        refine lv_iconst (v := 1) hx hb dX11_nextWay_15 (by decide) ?_
        refine lv_iadd hx hb dX11_nextWay_16 ?_
        refine lv_topi (fun v5004 ev5004 => ?_)
        have tv5004 : v5004.toInt = v5002.toInt + 1 := by rw [ev5004]; exact addT rfl (show (1 : Int32).toInt = 1 by decide) (by omega)
        refine va_iast hx hb hK.1 hP hD hS 9 0 rfl rfl (inK rfl (by omega) (by decide)) dX11_nextWay_17 (fun H locs hP hD hS => ?_)
        have hP : va_P G vwCl (mS cs h q F (vA A 19 (upd a19_4 x4_2.toNatClampNeg v5004)) D B) H := hP
        have hD : va_D A0 (mS cs h q F (vA A 19 (upd a19_4 x4_2.toNatClampNeg v5004)) D B) := hD
        obtain ⟨g5005, eg5005⟩ : ∃ z : Nat → Int32, z = upd a19_4 x4_2.toNatClampNeg v5004 := ⟨_, rfl⟩
        rw [← eg5005] at hP hD
        refine lv_aload_n hx hb dX11_nextWay_18 rfl (lv_at hl 0 rfl) ?_
        refine getF (v := .ref (q 19)) hx hb ht hown hK hP iTX11 0 19 rfl rfl (by decide) fl_RX11_40 rfl dX11_nextWay_19 ?_
        refine lv_iload_n hx hb dX11_nextWay_22 rfl (lv_at hl 1 rfl) ?_
        refine va_iald hx hb hK.1 hP 9 0 rfl rfl (inK rfl (by omega) (by decide)) dX11_nextWay_23 ?_
        refine lv_topi (fun v5006 ev5006 => ?_)
        have ev5006 : v5006 = g5005 x4_2.toNatClampNeg := ev5006
        have qv5006 : v5006.toInt = v5004.toInt := by rw [ev5006, eg5005]; exact congrArg Int32.toInt updS
        refine lv_aload_n hx hb dX11_nextWay_24 rfl (lv_at hl 0 rfl) ?_
        refine getF (v := .ref (q 1)) hx hb ht hown hK hP iTX11 0 1 rfl rfl (by decide) fl_RX11_9 rfl dX11_nextWay_25 ?_
        refine lv_iconst (v := 4) hx hb dX11_nextWay_28 (by decide) ?_
        refine va_iald hx hb hK.1 hP 1 0 rfl rfl (show ¬ (_ ∨ _) by decide) dX11_nextWay_29 ?_
        refine W.eq (g2 := F0 m 30 ls [.int (A 1 4), .int v5006]) rfl ?_
        have zf5007 : (0 : Int) ≤ (A 1 4).toInt ∧ (A 1 4).toInt ≤ 7 := (hI.2 1 4)
        refine lv_icmp_ge (tgt := 35) hx hb dX11_nextWay_30 (by decide) (fun c5008 => ?_) (fun c5008 => ?_)
        · have zc5008 := leK rfl rfl c5008
          refine lv_aload_n hx hb dX11_nextWay_35 rfl (lv_at hl 0 rfl) ?_
          refine getF (v := .ref (q 19)) hx hb ht hown hK hP iTX11 0 19 rfl rfl (by decide) fl_RX11_40 rfl dX11_nextWay_36 ?_
          refine lv_iload_n hx hb dX11_nextWay_39 rfl (lv_at hl 1 rfl) ?_
          refine lv_iconst (v := 0) hx hb dX11_nextWay_40 (by decide) ?_
          refine va_iast hx hb hK.1 hP hD hS 9 0 rfl rfl (inK rfl (by omega) (by decide)) dX11_nextWay_41 (fun H locs hP hD hS => ?_)
          have hP : va_P G vwCl (mS cs h q F (vA A 19 (upd g5005 x4_2.toNatClampNeg (0 : Int32))) D B) H := hP
          have hD : va_D A0 (mS cs h q F (vA A 19 (upd g5005 x4_2.toNatClampNeg (0 : Int32))) D B) := hD
          obtain ⟨g5009, eg5009⟩ : ∃ z : Nat → Int32, z = upd g5005 x4_2.toNatClampNeg (0 : Int32) := ⟨_, rfl⟩
          rw [← eg5009] at hP hD
          have hg5009 : AI 19 g5009 := by rw [eg5009, eg5005]; exact AI_upd2 ha19_4 (show (0 : Int) ≤ (0 : Int32).toInt ∧ (0 : Int32).toInt ≤ 6 by decide)
          obtain ⟨v5010, ev5010⟩ : ∃ z : Int32, z = x4_2 + (-1) := ⟨_, rfl⟩
          have tv5010 : v5010.toInt = x4_2.toInt + (-1) := by rw [ev5010]; exact addT rfl (by decide) (by omega)
          refine lv_iinc (v := v5010) (lv' := [(2, .int v5010), (0, .ref h)]) hx hb dX11_nextWay_42 hl (k := 1) rfl (by rw [ev5010]; rfl) (by decide) rfl (fun ls hl => ?_)
          refine lv_goto (tgt := 4) hx hb dX11_nextWay_45 (by decide) ?_
          exact ih4 v5010 g5009 H locs ls (by omega) (by omega) hg5009 (nwF (i := x4_2.toNatClampNeg) (clK rfl (by omega)) (by omega) hw5 eg5005 eg5009 (by decide) (ha19_4 _).2 tv5010) hP hD hS (lv_sub hl [1, 0] rfl)
        · have zc5008 := nleK rfl rfl c5008
          refine lv_iconst (v := 1) hx hb dX11_nextWay_33 (by decide) ?_
          exact retDz g5005 hx hb hr hlk hP hD hS dX11_nextWay_34 (rfl) (⟨(AI_e eg5005 (AI_upd ha19_4 (show (0 : Int) ≤ v5004.toInt ∧ v5004.toInt ≤ 6 by omega))), ⟨by decide, fun _ => nwT (i := x4_2.toNatClampNeg) (clK rfl (by omega)) (by omega) hw5 eg5005 (by rw [tv5004, ev5002] <;> rfl)⟩⟩) (Nat.le_of_ble_eq_true rfl) (Nat.le_of_ble_eq_true rfl)
  exact B4 _ v1 (A 19) s.heap [] ls (Nat.lt_succ_self _) (by omega) (fun j => hI.2 19 j) (by have q9 := q7p v1.toInt; omega) hP hD hS (lv_sub hl [1, 0] rfl)

set_option maxRecDepth 100000 in
set_option maxHeartbeats 8000000 in
theorem sX11_isWay (l : Launch) (G : va_G) (cs : Nat → ClassId) (h : Nat) (q : Nat → Nat) (F : Nat → Int32) (A : Nat → Nat → Int32) (D : Int64) (B : Nat → Nat → Int64) (hI : IM F A) (a1 : Int32) (a2 : Int32) (ha1 : (0 : Int) ≤ a1.toInt ∧ a1.toInt ≤ 6) (ha2 : (0 : Int) ≤ a2.toInt ∧ a2.toInt ≤ 5) : SafeR l yX11_isWay cX11_isWay 5 (some .boolean) 2 G (TY cs) [.ref h, .int a1, .int a2] (mS cs h q F A D B) (fun r : Int32 => (0 : Int) ≤ r.toInt ∧ r.toInt ≤ 1) := by
  refine mkP (Qc := QRi (fun r : Int32 => (0 : Int) ≤ r.toInt ∧ r.toInt ≤ 1)) (by decide) (by simp [lg_sl, Value.category]) ?_
  intro p e s m args below meth c ls hx hb hml hr hlk hown ht hK hP hS hl
  have hl : lv_has ls 5 [(0, .ref h), (1, .int a1), (2, .int a2)] := hl
  refine lv_iload_n hx hb dX11_isWay_0 rfl (lv_at hl 1 rfl) ?_
  refine lv_istore_n (lv' := [(3, .int a1), (0, .ref h), (1, .int a1), (2, .int a2)]) hx hb dX11_isWay_1 rfl hl (by decide) rfl (fun ls hl => ?_)
  refine lv_iconst (v := 0) hx hb dX11_isWay_2 (by decide) ?_
  refine lv_istore (lv' := [(4, .int 0), (3, .int a1), (0, .ref h), (1, .int a1), (2, .int a2)]) hx hb dX11_isWay_3 hl (by decide) rfl (fun ls hl => ?_)
  have B5 : ∀ (n : Nat) (x5_3 : Int32) (x5_4 : Int32) (H : Heap) (locs : List Loc) (ls : Array Slot), (5 - x5_4.toInt).toNat < n → (0 : Int) ≤ x5_3.toInt ∧ x5_3.toInt ≤ 6 → (0 : Int) ≤ x5_4.toInt ∧ x5_4.toInt ≤ 5 → va_P G vwCl (mS cs h q F A D B) H → va_S (fun q => s.heap.size ≤ q) s.heap H locs → lv_has ls 5 [(0, .ref h), (2, .int a2), (3, .int x5_3), (4, .int x5_4)] → W p l e (rmk 2 0 0) s m args below meth c H locs 0 0 (MQ below (QRi (fun r : Int32 => (0 : Int) ≤ r.toInt ∧ r.toInt ≤ 1) s.heap.size) args s 0 0 (fun q => s.heap.size ≤ q)) (F0 m 5 ls []) := by
    intro n
    induction n with
    | zero => intro x5_3 x5_4 H locs ls hmeas hx5_3 hx5_4 hP hS hl; exact absurd hmeas (Nat.not_lt_zero _)
    | succ n ih5 =>
      intro x5_3 x5_4 H locs ls hmeas hx5_3 hx5_4 hP hS hl
      refine lv_iload hx hb dX11_isWay_5 (lv_at hl 3 rfl) ?_
      refine lv_iload_n hx hb dX11_isWay_7 rfl (lv_at hl 1 rfl) ?_
      refine lv_icmp_ge (tgt := 42) hx hb dX11_isWay_8 (by decide) (fun c5001 => ?_) (fun c5001 => ?_)
      · have zc5001 := leK rfl rfl c5001
        refine lv_iconst (v := 1) hx hb dX11_isWay_42 (by decide) ?_
        exact retRz hx hb hr hlk hS dX11_isWay_43 (rfl) (show (0 : Int) ≤ (1 : Int32).toInt ∧ (1 : Int32).toInt ≤ 1 by have kk : (1 : Int32).toInt = 1 := (by decide); omega)
      · have zc5001 := nleK rfl rfl c5001
        refine lv_aload_n hx hb dX11_isWay_11 rfl (lv_at hl 0 rfl) ?_
        refine lv_iload_n hx hb dX11_isWay_12 rfl (lv_at hl 2 rfl) ?_
        refine lv_aload_n hx hb dX11_isWay_13 rfl (lv_at hl 0 rfl) ?_
        refine getF (v := .ref (q 19)) hx hb ht hown hK hP iTX11 0 19 rfl rfl (by decide) fl_RX11_40 rfl dX11_isWay_14 ?_
        refine lv_iload hx hb dX11_isWay_17 (lv_at hl 3 rfl) ?_
        refine va_iald hx hb hK.1 hP 9 0 rfl rfl (inK rfl (by omega) (by decide)) dX11_isWay_19 ?_
        refine lv_topi (fun v5002 ev5002 => ?_)
        have zf5003 : (0 : Int) ≤ v5002.toInt ∧ v5002.toInt ≤ 6 := by rw [ev5002]; exact (hI.2 19 _)
        refine behR (runVP (As := [.int x5_3, .int v5002]) (rest := []) ⟨hx, hb, hml, hown, ht⟩ (sX11_goesTo l G cs h q F A D B hI x5_3 v5002 (by omega)) okV_RX11_312 ⟨by decide, by decide⟩ hK hP [0, 1, 2, 3, 4, 5, 6, 7, 8, 9, 10, 11, 12, 13, 14, 15, 16, 17, 18, 19] rfl 0 rfl rfl hl.1 rfl (Nat.le_of_ble_eq_true rfl) dX11_isWay_20 ⟨by decide, by decide⟩) hP hS (fun _ h => h) (fun r5004 H locs hr5004 hP hS => ?_)
        have hr5004 : (0 : Int) ≤ r5004.toInt ∧ r5004.toInt ≤ 1 := hr5004
        refine lv_if_ne (tgt := 28) hx hb dX11_isWay_23 (by decide) (fun c5005 => ?_) (fun c5005 => ?_)
        · have zc5005 := neK rfl (show (0 : Int32).toInt = 0 by decide) c5005
          refine lv_aload_n hx hb dX11_isWay_28 rfl (lv_at hl 0 rfl) ?_
          refine getF (v := .ref (q 19)) hx hb ht hown hK hP iTX11 0 19 rfl rfl (by decide) fl_RX11_40 rfl dX11_isWay_29 ?_
          refine lv_iload hx hb dX11_isWay_32 (lv_at hl 3 rfl) ?_
          refine va_iald hx hb hK.1 hP 9 0 rfl rfl (inK rfl (by omega) (by decide)) dX11_isWay_34 ?_
          refine lv_topi (fun v5006 ev5006 => ?_)
          have zf5007 : (0 : Int) ≤ v5006.toInt ∧ v5006.toInt ≤ 6 := by rw [ev5006]; exact (hI.2 19 _)
          refine lv_istore_n (lv' := [(3, .int v5006), (0, .ref h), (2, .int a2), (4, .int x5_4)]) hx hb dX11_isWay_35 rfl hl (by decide) rfl (fun ls hl => ?_)
          obtain ⟨v5008, ev5008⟩ : ∃ z : Int32, z = x5_4 + 1 := ⟨_, rfl⟩
          have tv5008 : v5008.toInt = x5_4.toInt + 1 := by rw [ev5008]; exact addT rfl (by decide) (by omega)
          refine lv_iinc (v := v5008) (lv' := [(4, .int v5008), (3, .int v5006), (0, .ref h), (2, .int a2)]) hx hb dX11_isWay_36 hl (k := 3) rfl (by rw [ev5008]; rfl) (by decide) rfl (fun ls hl => ?_)
          refine lv_goto (tgt := 5) hx hb dX11_isWay_39 (by decide) ?_
          exact ih5 v5006 v5008 H locs ls (by omega) (by omega) (by omega) hP hS (lv_sub hl [2, 3, 1, 0] rfl)
        · have zc5005 := eqK rfl (show (0 : Int32).toInt = 0 by decide) c5005
          refine lv_iconst (v := 0) hx hb dX11_isWay_26 (by decide) ?_
          exact retRz hx hb hr hlk hS dX11_isWay_27 (rfl) (show (0 : Int) ≤ (0 : Int32).toInt ∧ (0 : Int32).toInt ≤ 1 by have kk : (0 : Int32).toInt = 0 := (by decide); omega)
  exact B5 _ a1 0 s.heap [] ls (Nat.lt_succ_self _) (by omega) (by decide) hP hS (lv_sub hl [2, 4, 1, 0] rfl)

set_option maxRecDepth 100000 in
set_option maxHeartbeats 8000000 in
theorem sX11_bestFrom (l : Launch) (G : va_G) (cs : Nat → ClassId) (h : Nat) (q : Nat → Nat) (F : Nat → Int32) (A : Nat → Nat → Int32) (D : Int64) (B : Nat → Nat → Int64) (hI : IM F A) (a1 : Int32) (a2 : Int32) (ha1 : (0 : Int) ≤ a1.toInt ∧ a1.toInt ≤ 6) (ha2 : (0 : Int) ≤ a2.toInt ∧ a2.toInt ≤ 5) : ImpI l yX11_bestFrom cX11_bestFrom 6 (some .int) 5 0 0 G (TY cs) [.ref h, .int a1, .int a2] (mS cs h q F A D B) (fun (r : Int32) (u : Int32 × Int32 × (Nat → Int32) × (Nat → Int32) × (Nat → Int32) × (Nat → Int32) × (Nat → Int32)) => AI 19 u.2.2.2.2.1 ∧ AI 20 u.2.2.2.2.2.1 ∧ (True)) (fun u : Int32 × Int32 × (Nat → Int32) × (Nat → Int32) × (Nat → Int32) × (Nat → Int32) × (Nat → Int32) => (mS cs h q (upd (upd F 17 u.1) 18 u.2.1) (vA (vA (vA (vA (vA A 15 u.2.2.1) 16 u.2.2.2.1) 19 u.2.2.2.2.1) 20 u.2.2.2.2.2.1) 21 u.2.2.2.2.2.2) D B)) := by
  refine mkD (Qc := (QDi G (fun (r : Int32) (u : Int32 × Int32 × (Nat → Int32) × (Nat → Int32) × (Nat → Int32) × (Nat → Int32) × (Nat → Int32)) => AI 19 u.2.2.2.2.1 ∧ AI 20 u.2.2.2.2.2.1 ∧ (True)) (fun u : Int32 × Int32 × (Nat → Int32) × (Nat → Int32) × (Nat → Int32) × (Nat → Int32) × (Nat → Int32) => (mS cs h q (upd (upd F 17 u.1) 18 u.2.1) (vA (vA (vA (vA (vA A 15 u.2.2.1) 16 u.2.2.2.1) 19 u.2.2.2.2.1) 20 u.2.2.2.2.2.1) 21 u.2.2.2.2.2.2) D B)))) (by decide) (by simp [lg_sl, Value.category]) ?_
  intro p e s m args below meth c ls A0 hx hb hml hr hlk hown hmn ht hK hP hD hS hA hl
  have hl : lv_has ls 6 [(0, .ref h), (1, .int a1), (2, .int a2)] := hl
  refine lv_aload_n hx hb dX11_bestFrom_0 rfl (lv_at hl 0 rfl) ?_
  refine behDw (wr := []) (runVD (As := []) (rest := []) ⟨hx, hb, hml, hown, ht⟩ (sX11_asItIs l G cs h q F A D B hI  ) okV_RX11_278 ⟨by decide, by decide⟩ hK hP hD [0, 1, 2, 3, 4, 5, 6, 7, 8, 9, 10, 11, 12, 13, 14, 15, 16, 17, 18, 19] rfl (by decide) rfl 0 rfl rfl hl.1 rfl (Nat.le_of_ble_eq_true rfl) dX11_bestFrom_1 ⟨(Nat.le_of_ble_eq_true rfl), (Nat.le_of_ble_eq_true rfl)⟩) hP hD hS hA [0, 1, 2, 3, 4, 5, 6, 7, 8, 9, 10, 11, 12, 13, 14, 15, 16, 17, 18, 19] [] rfl rfl (by decide) (by decide) (fun u H locs hu hP hD hS => ?_)
  obtain ⟨x1, x2, g3, g4⟩ := u
  have hr5 := hu
  have hP : va_P G vwCl (mS cs h q (upd (upd F 17 x1) 18 x2) (vA (vA A 15 g3) 16 g4) D B) H := hP
  have hD : va_D A0 (mS cs h q (upd (upd F 17 x1) 18 x2) (vA (vA A 15 g3) 16 g4) D B) := hD
  refine lv_iconst (v := 0) hx hb dX11_bestFrom_4 (by decide) ?_
  refine lv_istore_n (lv' := [(3, .int 0), (0, .ref h), (1, .int a1), (2, .int a2)]) hx hb dX11_bestFrom_5 rfl hl (by decide) rfl (fun ls hl => ?_)
  have B6 : ∀ (n : Nat) (x6_3 : Int32) (a21_6 : (Nat → Int32)) (H : Heap) (locs : List Loc) (ls : Array Slot), (7 - x6_3.toInt).toNat < n → (0 : Int) ≤ x6_3.toInt ∧ x6_3.toInt ≤ 7 → va_P G vwCl (mS cs h q (upd (upd F 17 x1) 18 x2) (vA (vA (vA A 15 g3) 16 g4) 21 a21_6) D B) H → va_D A0 (mS cs h q (upd (upd F 17 x1) 18 x2) (vA (vA (vA A 15 g3) 16 g4) 21 a21_6) D B) → va_S A0 s.heap H locs → lv_has ls 6 [(0, .ref h), (1, .int a1), (2, .int a2), (3, .int x6_3)] → W p l e (rmk 5 0 0) s m args below meth c H locs 0 0 (MQ below ((QDi G (fun (r : Int32) (u : Int32 × Int32 × (Nat → Int32) × (Nat → Int32) × (Nat → Int32) × (Nat → Int32) × (Nat → Int32)) => AI 19 u.2.2.2.2.1 ∧ AI 20 u.2.2.2.2.2.1 ∧ (True)) (fun u : Int32 × Int32 × (Nat → Int32) × (Nat → Int32) × (Nat → Int32) × (Nat → Int32) × (Nat → Int32) => (mS cs h q (upd (upd F 17 u.1) 18 u.2.1) (vA (vA (vA (vA (vA A 15 u.2.2.1) 16 u.2.2.2.1) 19 u.2.2.2.2.1) 20 u.2.2.2.2.2.1) 21 u.2.2.2.2.2.2) D B))) A0) args s 0 0 A0) (F0 m 6 ls []) := by
    intro n
    induction n with
    | zero => intro x6_3 a21_6 H locs ls hmeas hx6_3 hP hD hS hl; exact absurd hmeas (Nat.not_lt_zero _)
    | succ n ih6 =>
      intro x6_3 a21_6 H locs ls hmeas hx6_3 hP hD hS hl
      refine lv_iload_n hx hb dX11_bestFrom_6 rfl (lv_at hl 3 rfl) ?_
      refine lv_bipush (v := 7) hx hb dX11_bestFrom_7 (by decide) ?_
      refine lv_icmp_ge (tgt := 30) hx hb dX11_bestFrom_9 (by decide) (fun c5001 => ?_) (fun c5001 => ?_)
      · have zc5001 := leK (show (7 : Int32).toInt = 7 by decide) rfl c5001
        refine lv_iconst (v := 0) hx hb dX11_bestFrom_30 (by decide) ?_
        refine lv_istore_n (lv' := [(3, .int 0), (0, .ref h), (1, .int a1), (2, .int a2)]) hx hb dX11_bestFrom_31 rfl hl (by decide) rfl (fun ls hl => ?_)
        have B32 : ∀ (n : Nat) (x32_3 : Int32) (a19_32 : (Nat → Int32)) (H : Heap) (locs : List Loc) (ls : Array Slot), (5 - x32_3.toInt).toNat < n → (0 : Int) ≤ x32_3.toInt ∧ x32_3.toInt ≤ 5 → AI 19 a19_32 → va_P G vwCl (mS cs h q (upd (upd F 17 x1) 18 x2) (vA (vA (vA (vA A 15 g3) 16 g4) 19 a19_32) 21 a21_6) D B) H → va_D A0 (mS cs h q (upd (upd F 17 x1) 18 x2) (vA (vA (vA (vA A 15 g3) 16 g4) 19 a19_32) 21 a21_6) D B) → va_S A0 s.heap H locs → lv_has ls 6 [(0, .ref h), (1, .int a1), (2, .int a2), (3, .int x32_3)] → W p l e (rmk 5 0 0) s m args below meth c H locs 0 0 (MQ below ((QDi G (fun (r : Int32) (u : Int32 × Int32 × (Nat → Int32) × (Nat → Int32) × (Nat → Int32) × (Nat → Int32) × (Nat → Int32)) => AI 19 u.2.2.2.2.1 ∧ AI 20 u.2.2.2.2.2.1 ∧ (True)) (fun u : Int32 × Int32 × (Nat → Int32) × (Nat → Int32) × (Nat → Int32) × (Nat → Int32) × (Nat → Int32) => (mS cs h q (upd (upd F 17 u.1) 18 u.2.1) (vA (vA (vA (vA (vA A 15 u.2.2.1) 16 u.2.2.2.1) 19 u.2.2.2.2.1) 20 u.2.2.2.2.2.1) 21 u.2.2.2.2.2.2) D B))) A0) args s 0 0 A0) (F0 m 32 ls []) := by
          intro n
          induction n with
          | zero => intro x32_3 a19_32 H locs ls hmeas hx32_3 ha19_32 hP hD hS hl; exact absurd hmeas (Nat.not_lt_zero _)
          | succ n ih32 =>
            intro x32_3 a19_32 H locs ls hmeas hx32_3 ha19_32 hP hD hS hl
            refine lv_iload_n hx hb dX11_bestFrom_32 rfl (lv_at hl 3 rfl) ?_
            refine lv_iconst (v := 5) hx hb dX11_bestFrom_33 (by decide) ?_
            refine lv_icmp_ge (tgt := 50) hx hb dX11_bestFrom_34 (by decide) (fun c20001 => ?_) (fun c20001 => ?_)
            · have zc20001 := leK (show (5 : Int32).toInt = 5 by decide) rfl c20001
              refine lv_iconst (v := (-1)) hx hb dX11_bestFrom_50 (by decide) ?_
              refine lv_istore_n (lv' := [(3, .int (-1)), (0, .ref h), (1, .int a1), (2, .int a2)]) hx hb dX11_bestFrom_51 rfl hl (by decide) rfl (fun ls hl => ?_)
              have B52 : ∀ (n : Nat) (x52_3 : Int32) (f18_52 : Int32) (a15_52 : (Nat → Int32)) (a16_52 : (Nat → Int32)) (a19_52 : (Nat → Int32)) (a20_52 : (Nat → Int32)) (H : Heap) (locs : List Loc) (ls : Array Slot), (16807 - W5 a19_52).toNat < n → (-1 : Int) ≤ x52_3.toInt → AI 19 a19_52 → AI 20 a20_52 → va_P G vwCl (mS cs h q (upd (upd F 17 x1) 18 f18_52) (vA (vA (vA (vA (vA A 15 a15_52) 16 a16_52) 19 a19_52) 20 a20_52) 21 a21_6) D B) H → va_D A0 (mS cs h q (upd (upd F 17 x1) 18 f18_52) (vA (vA (vA (vA (vA A 15 a15_52) 16 a16_52) 19 a19_52) 20 a20_52) 21 a21_6) D B) → va_S A0 s.heap H locs → lv_has ls 6 [(0, .ref h), (1, .int a1), (2, .int a2), (3, .int x52_3)] → W p l e (rmk 5 0 0) s m args below meth c H locs 0 0 (MQ below ((QDi G (fun (r : Int32) (u : Int32 × Int32 × (Nat → Int32) × (Nat → Int32) × (Nat → Int32) × (Nat → Int32) × (Nat → Int32)) => AI 19 u.2.2.2.2.1 ∧ AI 20 u.2.2.2.2.2.1 ∧ (True)) (fun u : Int32 × Int32 × (Nat → Int32) × (Nat → Int32) × (Nat → Int32) × (Nat → Int32) × (Nat → Int32) => (mS cs h q (upd (upd F 17 u.1) 18 u.2.1) (vA (vA (vA (vA (vA A 15 u.2.2.1) 16 u.2.2.2.1) 19 u.2.2.2.2.1) 20 u.2.2.2.2.2.1) 21 u.2.2.2.2.2.2) D B))) A0) args s 0 0 A0) (F0 m 52 ls []) := by
                intro n
                induction n with
                | zero => intro x52_3 f18_52 a15_52 a16_52 a19_52 a20_52 H locs ls hmeas hx52_3 ha19_52 ha20_52 hP hD hS hl; exact absurd hmeas (Nat.not_lt_zero _)
                | succ n ih52 =>
                  intro x52_3 f18_52 a15_52 a16_52 a19_52 a20_52 H locs ls hmeas hx52_3 ha19_52 ha20_52 hP hD hS hl
                  have hW9 := W5le ha19_52
                  refine lv_aload_n hx hb dX11_bestFrom_52 rfl (lv_at hl 0 rfl) ?_
                  refine lv_iload_n hx hb dX11_bestFrom_53 rfl (lv_at hl 1 rfl) ?_
                  refine lv_iload_n hx hb dX11_bestFrom_54 rfl (lv_at hl 2 rfl) ?_
                  refine behR (runVP (As := [.int a1, .int a2]) (rest := []) ⟨hx, hb, hml, hown, ht⟩ (sX11_isWay l G cs h q (upd (upd F 17 x1) 18 f18_52) (vA (vA (vA (vA (vA A 15 a15_52) 16 a16_52) 19 a19_52) 20 a20_52) 21 a21_6) D B (IM_arr (k := 21) (IM_arr (k := 20) (IM_arr (k := 19) (IM_arr (k := 16) (IM_arr (k := 15) (IM_put (k := 18) (IM_put (k := 17) hI (i32b _)) (i32b _)) (fun _ => i32b _)) (fun _ => i32b _)) ha19_52) ha20_52) (fun _ => i32b _)) a1 a2 (by omega) (by omega)) okV_RX11_319 ⟨by decide, by decide⟩ hK hP [0, 1, 2, 3, 4, 5, 6, 7, 8, 9, 10, 11, 12, 13, 14, 15, 16, 17, 18, 19] rfl 0 rfl rfl hl.1 rfl (Nat.le_of_ble_eq_true rfl) dX11_bestFrom_55 ⟨by decide, by decide⟩) hP hS hA (fun r32001 H locs hr32001 hP hS => ?_)
                  have hr32001 : (0 : Int) ≤ r32001.toInt ∧ r32001.toInt ≤ 1 := hr32001
                  have B175 : ∀ (x175_3 : Int32) (f18_175 : Int32) (a15_175 : (Nat → Int32)) (a16_175 : (Nat → Int32)) (a20_175 : (Nat → Int32)) (H : Heap) (locs : List Loc) (ls : Array Slot), (-1 : Int) ≤ x175_3.toInt → AI 20 a20_175 → va_P G vwCl (mS cs h q (upd (upd F 17 x1) 18 f18_175) (vA (vA (vA (vA (vA A 15 a15_175) 16 a16_175) 19 a19_52) 20 a20_175) 21 a21_6) D B) H → va_D A0 (mS cs h q (upd (upd F 17 x1) 18 f18_175) (vA (vA (vA (vA (vA A 15 a15_175) 16 a16_175) 19 a19_52) 20 a20_175) 21 a21_6) D B) → va_S A0 s.heap H locs → lv_has ls 6 [(0, .ref h), (1, .int a1), (2, .int a2), (3, .int x175_3)] → W p l e (rmk 5 0 0) s m args below meth c H locs 0 0 (MQ below ((QDi G (fun (r : Int32) (u : Int32 × Int32 × (Nat → Int32) × (Nat → Int32) × (Nat → Int32) × (Nat → Int32) × (Nat → Int32)) => AI 19 u.2.2.2.2.1 ∧ AI 20 u.2.2.2.2.2.1 ∧ (True)) (fun u : Int32 × Int32 × (Nat → Int32) × (Nat → Int32) × (Nat → Int32) × (Nat → Int32) × (Nat → Int32) => (mS cs h q (upd (upd F 17 u.1) 18 u.2.1) (vA (vA (vA (vA (vA A 15 u.2.2.1) 16 u.2.2.2.1) 19 u.2.2.2.2.1) 20 u.2.2.2.2.2.1) 21 u.2.2.2.2.2.2) D B))) A0) args s 0 0 A0) (F0 m 175 ls []) := by
                    intro x175_3 f18_175 a15_175 a16_175 a20_175 H locs ls hx175_3 ha20_175 hP hD hS hl
                    refine lv_aload_n hx hb dX11_bestFrom_175 rfl (lv_at hl 0 rfl) ?_
                    refine lv_iload_n hx hb dX11_bestFrom_176 rfl (lv_at hl 2 rfl) ?_
                    refine behDi (wr := []) (runVD (As := [.int a2]) (rest := []) ⟨hx, hb, hml, hown, ht⟩ (sX11_nextWay l G cs h q (upd (upd F 17 x1) 18 f18_175) (vA (vA (vA (vA (vA A 15 a15_175) 16 a16_175) 19 a19_52) 20 a20_175) 21 a21_6) D B (IM_arr (k := 21) (IM_arr (k := 20) (IM_arr (k := 19) (IM_arr (k := 16) (IM_arr (k := 15) (IM_put (k := 18) (IM_put (k := 17) hI (i32b _)) (i32b _)) (fun _ => i32b _)) (fun _ => i32b _)) ha19_52) ha20_175) (fun _ => i32b _)) a2 (by omega)) okV_RX11_322 ⟨by decide, by decide⟩ hK hP hD [0, 1, 2, 3, 4, 5, 6, 7, 8, 9, 10, 11, 12, 13, 14, 15, 16, 17, 18, 19] rfl (by decide) rfl 0 rfl rfl hl.1 rfl (Nat.le_of_ble_eq_true rfl) dX11_bestFrom_177 ⟨(Nat.le_of_ble_eq_true rfl), (Nat.le_of_ble_eq_true rfl)⟩) hP hD hS hA [0, 1, 2, 3, 4, 5, 6, 7, 8, 9, 10, 11, 12, 13, 14, 15, 16, 17, 18, 19] [] rfl rfl (by decide) (by decide) (fun r9 u H locs hu hP hD hS => ?_)
                    obtain ⟨g96001, rfl⟩ : ∃ z, z = u := ⟨_, rfl⟩
                    obtain ⟨r96002, rfl⟩ : ∃ z, z = r9 := ⟨_, rfl⟩
                    obtain ⟨hg96001, hr96002⟩ := hu
                    have hr96002 : ((0 : Int) ≤ r96002.toInt ∧ r96002.toInt ≤ 1) ∧ (r96002.toInt = 1 → W5 a19_52 + 1 ≤ W5 g96001) := hr96002
                    have hP : va_P G vwCl (mS cs h q (upd (upd F 17 x1) 18 f18_175) (vA (vA (vA (vA (vA A 15 a15_175) 16 a16_175) 19 g96001) 20 a20_175) 21 a21_6) D B) H := hP
                    have hD : va_D A0 (mS cs h q (upd (upd F 17 x1) 18 f18_175) (vA (vA (vA (vA (vA A 15 a15_175) 16 a16_175) 19 g96001) 20 a20_175) 21 a21_6) D B) := hD
                    refine lv_if_ne (tgt := 52) hx hb dX11_bestFrom_180 (by decide) (fun c96003 => ?_) (fun c96003 => ?_)
                    · have zc96003 := neK rfl (show (0 : Int32).toInt = 0 by decide) c96003
                      exact ih52 x175_3 f18_175 a15_175 a16_175 g96001 a20_175 H locs ls (by omega) (by omega) hg96001 ha20_175 hP hD hS (lv_sub hl [0, 1, 2, 3] rfl)
                    · have zc96003 := eqK rfl (show (0 : Int32).toInt = 0 by decide) c96003
                      refine lv_iload_n hx hb dX11_bestFrom_183 rfl (lv_at hl 3 rfl) ?_
                      exact retDi (x1, f18_175, a15_175, a16_175, g96001, a20_175, a21_6) hx hb hr hlk hP hD hS dX11_bestFrom_184 (⟨hg96001, ha20_175, trivial⟩) (Nat.le_of_ble_eq_true rfl) (Nat.le_of_ble_eq_true rfl)
                  refine lv_if_ne (tgt := 64) hx hb dX11_bestFrom_58 (by decide) (fun c32002 => ?_) (fun c32002 => ?_)
                  · have zc32002 := neK rfl (show (0 : Int32).toInt = 0 by decide) c32002
                    refine lv_iconst (v := 0) hx hb dX11_bestFrom_64 (by decide) ?_
                    refine lv_istore (lv' := [(4, .int 0), (0, .ref h), (1, .int a1), (2, .int a2), (3, .int x52_3)]) hx hb dX11_bestFrom_65 hl (by decide) rfl (fun ls hl => ?_)
                    have B67 : ∀ (n : Nat) (x67_4 : Int32) (a15_67 : (Nat → Int32)) (H : Heap) (locs : List Loc) (ls : Array Slot), (7 - x67_4.toInt).toNat < n → (0 : Int) ≤ x67_4.toInt ∧ x67_4.toInt ≤ 7 → va_P G vwCl (mS cs h q (upd (upd F 17 x1) 18 f18_52) (vA (vA (vA (vA (vA A 15 a15_67) 16 a16_52) 19 a19_52) 20 a20_52) 21 a21_6) D B) H → va_D A0 (mS cs h q (upd (upd F 17 x1) 18 f18_52) (vA (vA (vA (vA (vA A 15 a15_67) 16 a16_52) 19 a19_52) 20 a20_52) 21 a21_6) D B) → va_S A0 s.heap H locs → lv_has ls 6 [(0, .ref h), (1, .int a1), (2, .int a2), (3, .int x52_3), (4, .int x67_4)] → W p l e (rmk 5 0 0) s m args below meth c H locs 0 0 (MQ below ((QDi G (fun (r : Int32) (u : Int32 × Int32 × (Nat → Int32) × (Nat → Int32) × (Nat → Int32) × (Nat → Int32) × (Nat → Int32)) => AI 19 u.2.2.2.2.1 ∧ AI 20 u.2.2.2.2.2.1 ∧ (True)) (fun u : Int32 × Int32 × (Nat → Int32) × (Nat → Int32) × (Nat → Int32) × (Nat → Int32) × (Nat → Int32) => (mS cs h q (upd (upd F 17 u.1) 18 u.2.1) (vA (vA (vA (vA (vA A 15 u.2.2.1) 16 u.2.2.2.1) 19 u.2.2.2.2.1) 20 u.2.2.2.2.2.1) 21 u.2.2.2.2.2.2) D B))) A0) args s 0 0 A0) (F0 m 67 ls []) := by
                      intro n
                      induction n with
                      | zero => intro x67_4 a15_67 H locs ls hmeas hx67_4 hP hD hS hl; exact absurd hmeas (Nat.not_lt_zero _)
                      | succ n ih67 =>
                        intro x67_4 a15_67 H locs ls hmeas hx67_4 hP hD hS hl
                        refine lv_iload hx hb dX11_bestFrom_67 (lv_at hl 4 rfl) ?_
                        refine lv_bipush (v := 7) hx hb dX11_bestFrom_69 (by decide) ?_
                        refine lv_icmp_ge (tgt := 94) hx hb dX11_bestFrom_71 (by decide) (fun c40001 => ?_) (fun c40001 => ?_)
                        · have zc40001 := leK (show (7 : Int32).toInt = 7 by decide) rfl c40001
                          refine lv_iconst (v := 0) hx hb dX11_bestFrom_94 (by decide) ?_
                          refine lv_istore (lv' := [(4, .int 0), (0, .ref h), (1, .int a1), (2, .int a2), (3, .int x52_3)]) hx hb dX11_bestFrom_95 hl (by decide) rfl (fun ls hl => ?_)
                          refine lv_iconst (v := 0) hx hb dX11_bestFrom_97 (by decide) ?_
                          refine lv_istore (lv' := [(5, .int 0), (4, .int 0), (0, .ref h), (1, .int a1), (2, .int a2), (3, .int x52_3)]) hx hb dX11_bestFrom_98 hl (by decide) rfl (fun ls hl => ?_)
                          have B100 : ∀ (n : Nat) (x100_4 : Int32) (x100_5 : Int32) (f18_100 : Int32) (a15_100 : (Nat → Int32)) (a16_100 : (Nat → Int32)) (H : Heap) (locs : List Loc) (ls : Array Slot), (5 - x100_5.toInt).toNat < n → (0 : Int) ≤ x100_5.toInt ∧ x100_5.toInt ≤ 5 → va_P G vwCl (mS cs h q (upd (upd F 17 x1) 18 f18_100) (vA (vA (vA (vA (vA A 15 a15_100) 16 a16_100) 19 a19_52) 20 a20_52) 21 a21_6) D B) H → va_D A0 (mS cs h q (upd (upd F 17 x1) 18 f18_100) (vA (vA (vA (vA (vA A 15 a15_100) 16 a16_100) 19 a19_52) 20 a20_52) 21 a21_6) D B) → va_S A0 s.heap H locs → lv_has ls 6 [(0, .ref h), (1, .int a1), (2, .int a2), (3, .int x52_3), (4, .int x100_4), (5, .int x100_5)] → W p l e (rmk 5 0 0) s m args below meth c H locs 0 0 (MQ below ((QDi G (fun (r : Int32) (u : Int32 × Int32 × (Nat → Int32) × (Nat → Int32) × (Nat → Int32) × (Nat → Int32) × (Nat → Int32)) => AI 19 u.2.2.2.2.1 ∧ AI 20 u.2.2.2.2.2.1 ∧ (True)) (fun u : Int32 × Int32 × (Nat → Int32) × (Nat → Int32) × (Nat → Int32) × (Nat → Int32) × (Nat → Int32) => (mS cs h q (upd (upd F 17 u.1) 18 u.2.1) (vA (vA (vA (vA (vA A 15 u.2.2.1) 16 u.2.2.2.1) 19 u.2.2.2.2.1) 20 u.2.2.2.2.2.1) 21 u.2.2.2.2.2.2) D B))) A0) args s 0 0 A0) (F0 m 100 ls []) := by
                            intro n
                            induction n with
                            | zero => intro x100_4 x100_5 f18_100 a15_100 a16_100 H locs ls hmeas hx100_5 hP hD hS hl; exact absurd hmeas (Nat.not_lt_zero _)
                            | succ n ih100 =>
                              intro x100_4 x100_5 f18_100 a15_100 a16_100 H locs ls hmeas hx100_5 hP hD hS hl
                              refine lv_iload hx hb dX11_bestFrom_100 (lv_at hl 5 rfl) ?_
                              refine lv_iload_n hx hb dX11_bestFrom_102 rfl (lv_at hl 2 rfl) ?_
                              refine lv_icmp_ge (tgt := 134) hx hb dX11_bestFrom_103 (by decide) (fun c57001 => ?_) (fun c57001 => ?_)
                              · have zc57001 := leK rfl rfl c57001
                                refine lv_iload hx hb dX11_bestFrom_134 (lv_at hl 4 rfl) ?_
                                refine lv_iload_n hx hb dX11_bestFrom_136 rfl (lv_at hl 3 rfl) ?_
                                refine lv_icmp_gt (tgt := 143) hx hb dX11_bestFrom_137 (by decide) (fun c57002 => ?_) (fun c57002 => ?_)
                                · have zc57002 := ltK rfl rfl c57002
                                  refine lv_iload hx hb dX11_bestFrom_143 (lv_at hl 4 rfl) ?_
                                  refine lv_istore_n (lv' := [(3, .int x100_4), (0, .ref h), (1, .int a1), (2, .int a2), (4, .int x100_4), (5, .int x100_5)]) hx hb dX11_bestFrom_145 rfl hl (by decide) rfl (fun ls hl => ?_)
                                  refine lv_iconst (v := 0) hx hb dX11_bestFrom_146 (by decide) ?_
                                  refine lv_istore (lv' := [(5, .int 0), (3, .int x100_4), (0, .ref h), (1, .int a1), (2, .int a2), (4, .int x100_4)]) hx hb dX11_bestFrom_147 hl (by decide) rfl (fun ls hl => ?_)
                                  have B149 : ∀ (n : Nat) (x149_5 : Int32) (a20_149 : (Nat → Int32)) (H : Heap) (locs : List Loc) (ls : Array Slot), (5 - x149_5.toInt).toNat < n → (0 : Int) ≤ x149_5.toInt ∧ x149_5.toInt ≤ 5 → AI 20 a20_149 → va_P G vwCl (mS cs h q (upd (upd F 17 x1) 18 f18_100) (vA (vA (vA (vA (vA A 15 a15_100) 16 a16_100) 19 a19_52) 20 a20_149) 21 a21_6) D B) H → va_D A0 (mS cs h q (upd (upd F 17 x1) 18 f18_100) (vA (vA (vA (vA (vA A 15 a15_100) 16 a16_100) 19 a19_52) 20 a20_149) 21 a21_6) D B) → va_S A0 s.heap H locs → lv_has ls 6 [(0, .ref h), (1, .int a1), (2, .int a2), (3, .int x100_4), (5, .int x149_5)] → W p l e (rmk 5 0 0) s m args below meth c H locs 0 0 (MQ below ((QDi G (fun (r : Int32) (u : Int32 × Int32 × (Nat → Int32) × (Nat → Int32) × (Nat → Int32) × (Nat → Int32) × (Nat → Int32)) => AI 19 u.2.2.2.2.1 ∧ AI 20 u.2.2.2.2.2.1 ∧ (True)) (fun u : Int32 × Int32 × (Nat → Int32) × (Nat → Int32) × (Nat → Int32) × (Nat → Int32) × (Nat → Int32) => (mS cs h q (upd (upd F 17 u.1) 18 u.2.1) (vA (vA (vA (vA (vA A 15 u.2.2.1) 16 u.2.2.2.1) 19 u.2.2.2.2.1) 20 u.2.2.2.2.2.1) 21 u.2.2.2.2.2.2) D B))) A0) args s 0 0 A0) (F0 m 149 ls []) := by
                                    intro n
                                    induction n with
                                    | zero => intro x149_5 a20_149 H locs ls hmeas hx149_5 ha20_149 hP hD hS hl; exact absurd hmeas (Nat.not_lt_zero _)
                                    | succ n ih149 =>
                                      intro x149_5 a20_149 H locs ls hmeas hx149_5 ha20_149 hP hD hS hl
                                      refine lv_iload hx hb dX11_bestFrom_149 (lv_at hl 4 rfl) ?_
                                      refine lv_iload_n hx hb dX11_bestFrom_151 rfl (lv_at hl 2 rfl) ?_
                                      refine lv_icmp_ge (tgt := 175) hx hb dX11_bestFrom_152 (by decide) (fun c83001 => ?_) (fun c83001 => ?_)
                                      · have zc83001 := leK rfl rfl c83001
                                        exact B175 x100_4 f18_100 a15_100 a16_100 a20_149 H locs ls (by omega) ha20_149 hP hD hS (lv_sub hl [0, 1, 2, 3] rfl)
                                      · have zc83001 := nleK rfl rfl c83001
                                        refine lv_aload_n hx hb dX11_bestFrom_155 rfl (lv_at hl 0 rfl) ?_
                                        refine getF (v := .ref (q 20)) hx hb ht hown hK hP iTX11 0 20 rfl rfl (by decide) fl_RX11_43 rfl dX11_bestFrom_156 ?_
                                        refine lv_iload hx hb dX11_bestFrom_159 (lv_at hl 4 rfl) ?_
                                        refine lv_aload_n hx hb dX11_bestFrom_161 rfl (lv_at hl 0 rfl) ?_
                                        refine getF (v := .ref (q 19)) hx hb ht hown hK hP iTX11 0 19 rfl rfl (by decide) fl_RX11_40 rfl dX11_bestFrom_162 ?_
                                        refine lv_iload hx hb dX11_bestFrom_165 (lv_at hl 4 rfl) ?_
                                        refine va_iald hx hb hK.1 hP 9 0 rfl rfl (inK rfl (by omega) (by decide)) dX11_bestFrom_167 ?_
                                        refine lv_topi (fun v83002 ev83002 => ?_)
                                        have zf83003 : (0 : Int) ≤ v83002.toInt ∧ v83002.toInt ≤ 6 := by rw [ev83002]; exact (ha19_52 _)
                                        refine va_iast hx hb hK.1 hP hD hS 10 0 rfl rfl (inK rfl (by omega) (by decide)) dX11_bestFrom_168 (fun H locs hP hD hS => ?_)
                                        have hP : va_P G vwCl (mS cs h q (upd (upd F 17 x1) 18 f18_100) (vA (vA (vA (vA (vA A 15 a15_100) 16 a16_100) 19 a19_52) 20 (upd a20_149 x149_5.toNatClampNeg v83002)) 21 a21_6) D B) H := hP
                                        have hD : va_D A0 (mS cs h q (upd (upd F 17 x1) 18 f18_100) (vA (vA (vA (vA (vA A 15 a15_100) 16 a16_100) 19 a19_52) 20 (upd a20_149 x149_5.toNatClampNeg v83002)) 21 a21_6) D B) := hD
                                        obtain ⟨g83004, eg83004⟩ : ∃ z : Nat → Int32, z = upd a20_149 x149_5.toNatClampNeg v83002 := ⟨_, rfl⟩
                                        rw [← eg83004] at hP hD
                                        have hg83004 : AI 20 g83004 := by rw [eg83004]; exact AI_upd (fun j => ha20_149 j) (show (0 : Int) ≤ v83002.toInt ∧ v83002.toInt ≤ 7 by omega)
                                        obtain ⟨v83005, ev83005⟩ : ∃ z : Int32, z = x149_5 + 1 := ⟨_, rfl⟩
                                        have tv83005 : v83005.toInt = x149_5.toInt + 1 := by rw [ev83005]; exact addT rfl (by decide) (by omega)
                                        refine lv_iinc (v := v83005) (lv' := [(5, .int v83005), (0, .ref h), (1, .int a1), (2, .int a2), (3, .int x100_4)]) hx hb dX11_bestFrom_169 hl (k := 4) rfl (by rw [ev83005]; rfl) (by decide) rfl (fun ls hl => ?_)
                                        refine lv_goto (tgt := 149) hx hb dX11_bestFrom_172 (by decide) ?_
                                        exact ih149 v83005 g83004 H locs ls (by omega) (by omega) hg83004 hP hD hS (lv_sub hl [1, 2, 3, 4, 0] rfl)
                                  exact B149 _ 0 a20_52 H locs ls (Nat.lt_succ_self _) (by decide) ha20_52 hP hD hS (lv_sub hl [2, 3, 4, 1, 0] rfl)
                                · have zc57002 := nltK rfl rfl c57002
                                  refine lv_goto (tgt := 175) hx hb dX11_bestFrom_140 (by decide) ?_
                                  exact B175 x52_3 f18_100 a15_100 a16_100 a20_52 H locs ls (by omega) ha20_52 hP hD hS (lv_sub hl [0, 1, 2, 3] rfl)
                              · have zc57001 := nleK rfl rfl c57001
                                refine lv_iload hx hb dX11_bestFrom_106 (lv_at hl 4 rfl) ?_
                                refine lv_aload_n hx hb dX11_bestFrom_108 rfl (lv_at hl 0 rfl) ?_
                                refine lv_aload_n hx hb dX11_bestFrom_109 rfl (lv_at hl 0 rfl) ?_
                                refine getF (v := .ref (q 19)) hx hb ht hown hK hP iTX11 0 19 rfl rfl (by decide) fl_RX11_40 rfl dX11_bestFrom_110 ?_
                                refine lv_iload hx hb dX11_bestFrom_113 (lv_at hl 5 rfl) ?_
                                refine va_iald hx hb hK.1 hP 9 0 rfl rfl (inK rfl (by omega) (by decide)) dX11_bestFrom_115 ?_
                                refine lv_topi (fun v57003 ev57003 => ?_)
                                have zf57004 : (0 : Int) ≤ v57003.toInt ∧ v57003.toInt ≤ 6 := by rw [ev57003]; exact (ha19_52 _)
                                refine lv_iconst (v := 0) hx hb dX11_bestFrom_116 (by decide) ?_
                                refine behDi (wr := []) (runVD (As := [.int v57003, .int 0]) (rest := [.int x100_4]) ⟨hx, hb, hml, hown, ht⟩ (sX11_callIn l G cs h q (upd (upd F 17 x1) 18 f18_100) (vA (vA (vA (vA (vA A 15 a15_100) 16 a16_100) 19 a19_52) 20 a20_52) 21 a21_6) D B (IM_arr (k := 21) (IM_arr (k := 20) (IM_arr (k := 19) (IM_arr (k := 16) (IM_arr (k := 15) (IM_put (k := 18) (IM_put (k := 17) hI (i32b _)) (i32b _)) (fun _ => i32b _)) (fun _ => i32b _)) ha19_52) ha20_52) (fun _ => i32b _)) v57003 0 (by omega) (by decide)) okV_RX11_264 ⟨by decide, by decide⟩ hK hP hD [0, 1, 2, 3, 4, 5, 6, 7, 8, 9, 10, 11, 12, 13, 14, 15, 16, 17, 18, 19] rfl (by decide) rfl 0 rfl rfl hl.1 rfl (Nat.le_of_ble_eq_true rfl) dX11_bestFrom_117 ⟨(Nat.le_of_ble_eq_true rfl), (Nat.le_of_ble_eq_true rfl)⟩) hP hD hS hA [0, 1, 2, 3, 4, 5, 6, 7, 8, 9, 10, 11, 12, 13, 14, 15, 16, 17, 18, 19] [] rfl rfl (by decide) (by decide) (fun r9 u H locs hu hP hD hS => ?_)
                                obtain ⟨x57005, g57006⟩ := u
                                obtain ⟨r57007, rfl⟩ : ∃ z, z = r9 := ⟨_, rfl⟩
                                have hr57007 := hu
                                have hP : va_P G vwCl (mS cs h q (upd (upd F 17 x1) 18 x57005) (vA (vA (vA (vA (vA A 15 g57006) 16 a16_100) 19 a19_52) 20 a20_52) 21 a21_6) D B) H := hP
                                have hD : va_D A0 (mS cs h q (upd (upd F 17 x1) 18 x57005) (vA (vA (vA (vA (vA A 15 g57006) 16 a16_100) 19 a19_52) 20 a20_52) 21 a21_6) D B) := hD
                                refine lv_iadd hx hb dX11_bestFrom_120 ?_
                                refine lv_topi (fun v57008 ev57008 => ?_)
                                refine lv_istore (lv' := [(4, .int v57008), (0, .ref h), (1, .int a1), (2, .int a2), (3, .int x52_3), (5, .int x100_5)]) hx hb dX11_bestFrom_121 hl (by decide) rfl (fun ls hl => ?_)
                                refine lv_aload_n hx hb dX11_bestFrom_123 rfl (lv_at hl 1 rfl) ?_
                                refine lv_iconst (v := (-1)) hx hb dX11_bestFrom_124 (by decide) ?_
                                refine behDw (wr := []) (runVD (As := [.int (-1)]) (rest := []) ⟨hx, hb, hml, hown, ht⟩ (sX11_goMinute l G cs h q (upd (upd F 17 x1) 18 x57005) (vA (vA (vA (vA (vA A 15 g57006) 16 a16_100) 19 a19_52) 20 a20_52) 21 a21_6) D B (IM_arr (k := 21) (IM_arr (k := 20) (IM_arr (k := 19) (IM_arr (k := 16) (IM_arr (k := 15) (IM_put (k := 18) (IM_put (k := 17) hI (i32b _)) (i32b _)) (fun _ => i32b _)) (fun _ => i32b _)) ha19_52) ha20_52) (fun _ => i32b _)) (-1) ) okV_RX11_267 ⟨by decide, by decide⟩ hK hP hD [0, 1, 2, 3, 4, 5, 6, 7, 8, 9, 10, 11, 12, 13, 14, 15, 16, 17, 18, 19] rfl (by decide) rfl 0 rfl rfl hl.1 rfl (Nat.le_of_ble_eq_true rfl) dX11_bestFrom_125 ⟨(Nat.le_of_ble_eq_true rfl), (Nat.le_of_ble_eq_true rfl)⟩) hP hD hS hA [0, 1, 2, 3, 4, 5, 6, 7, 8, 9, 10, 11, 12, 13, 14, 15, 16, 17, 18, 19] [] rfl rfl (by decide) (by decide) (fun u H locs hu hP hD hS => ?_)
                                obtain ⟨g57009, g57010⟩ := u
                                have hr57011 := hu
                                have hP : va_P G vwCl (mS cs h q (upd (upd F 17 x1) 18 x57005) (vA (vA (vA (vA (vA A 15 g57009) 16 g57010) 19 a19_52) 20 a20_52) 21 a21_6) D B) H := hP
                                have hD : va_D A0 (mS cs h q (upd (upd F 17 x1) 18 x57005) (vA (vA (vA (vA (vA A 15 g57009) 16 g57010) 19 a19_52) 20 a20_52) 21 a21_6) D B) := hD
                                obtain ⟨v57012, ev57012⟩ : ∃ z : Int32, z = x100_5 + 1 := ⟨_, rfl⟩
                                have tv57012 : v57012.toInt = x100_5.toInt + 1 := by rw [ev57012]; exact addT rfl (by decide) (by omega)
                                refine lv_iinc (v := v57012) (lv' := [(5, .int v57012), (4, .int v57008), (0, .ref h), (1, .int a1), (2, .int a2), (3, .int x52_3)]) hx hb dX11_bestFrom_128 hl (k := 5) rfl (by rw [ev57012]; rfl) (by decide) rfl (fun ls hl => ?_)
                                refine lv_goto (tgt := 100) hx hb dX11_bestFrom_131 (by decide) ?_
                                exact ih100 v57008 v57012 x57005 g57009 g57010 H locs ls (by omega) (by omega) hP hD hS (lv_sub hl [2, 3, 4, 5, 1, 0] rfl)
                          exact B100 _ 0 0 f18_52 a15_67 a16_52 H locs ls (Nat.lt_succ_self _) (by decide) hP hD hS (lv_sub hl [2, 3, 4, 5, 1, 0] rfl)
                        · have zc40001 := nleK (show (7 : Int32).toInt = 7 by decide) rfl c40001
                          refine lv_aload_n hx hb dX11_bestFrom_74 rfl (lv_at hl 0 rfl) ?_
                          refine getF (v := .ref (q 15)) hx hb ht hown hK hP iTX11 0 15 rfl rfl (by decide) fl_RX11_34 rfl dX11_bestFrom_75 ?_
                          refine lv_iload hx hb dX11_bestFrom_78 (lv_at hl 4 rfl) ?_
                          refine lv_aload_n hx hb dX11_bestFrom_80 rfl (lv_at hl 0 rfl) ?_
                          refine getF (v := .ref (q 21)) hx hb ht hown hK hP iTX11 0 21 rfl rfl (by decide) fl_RX11_46 rfl dX11_bestFrom_81 ?_
                          refine lv_iload hx hb dX11_bestFrom_84 (lv_at hl 4 rfl) ?_
                          refine va_iald hx hb hK.1 hP 11 0 rfl rfl (inK rfl (by omega) (by decide)) dX11_bestFrom_86 ?_
                          refine lv_topi (fun v40002 ev40002 => ?_)
                          refine va_iast hx hb hK.1 hP hD hS 7 0 rfl rfl (inK rfl (by omega) (by decide)) dX11_bestFrom_87 (fun H locs hP hD hS => ?_)
                          obtain ⟨g40003, hP, hD⟩ : ∃ g40003 : Nat → Int32, va_P G vwCl (mS cs h q (upd (upd F 17 x1) 18 f18_52) (vA (vA (vA (vA (vA A 15 g40003) 16 a16_52) 19 a19_52) 20 a20_52) 21 a21_6) D B) H ∧ va_D A0 (mS cs h q (upd (upd F 17 x1) 18 f18_52) (vA (vA (vA (vA (vA A 15 g40003) 16 a16_52) 19 a19_52) 20 a20_52) 21 a21_6) D B) := ⟨upd a15_67 x67_4.toNatClampNeg v40002, hP, hD⟩
                          obtain ⟨v40004, ev40004⟩ : ∃ z : Int32, z = x67_4 + 1 := ⟨_, rfl⟩
                          have tv40004 : v40004.toInt = x67_4.toInt + 1 := by rw [ev40004]; exact addT rfl (by decide) (by omega)
                          refine lv_iinc (v := v40004) (lv' := [(4, .int v40004), (0, .ref h), (1, .int a1), (2, .int a2), (3, .int x52_3)]) hx hb dX11_bestFrom_88 hl (k := 4) rfl (by rw [ev40004]; rfl) (by decide) rfl (fun ls hl => ?_)
                          refine lv_goto (tgt := 67) hx hb dX11_bestFrom_91 (by decide) ?_
                          exact ih67 v40004 g40003 H locs ls (by omega) (by omega) hP hD hS (lv_sub hl [1, 2, 3, 4, 0] rfl)
                    exact B67 _ 0 a15_52 H locs ls (Nat.lt_succ_self _) (by decide) hP hD hS (lv_sub hl [1, 2, 3, 4, 0] rfl)
                  · have zc32002 := eqK rfl (show (0 : Int32).toInt = 0 by decide) c32002
                    refine lv_goto (tgt := 175) hx hb dX11_bestFrom_61 (by decide) ?_
                    exact B175 x52_3 f18_52 a15_52 a16_52 a20_52 H locs ls (by omega) ha20_52 hP hD hS (lv_sub hl [0, 1, 2, 3] rfl)
              exact B52 _ (-1) x2 g3 g4 a19_32 (A 20) H locs ls (Nat.lt_succ_self _) (by decide) ha19_32 (fun j => hI.2 20 j) hP hD hS (lv_sub hl [1, 2, 3, 0] rfl)
            · have zc20001 := nleK (show (5 : Int32).toInt = 5 by decide) rfl c20001
              refine lv_aload_n hx hb dX11_bestFrom_37 rfl (lv_at hl 0 rfl) ?_
              refine getF (v := .ref (q 19)) hx hb ht hown hK hP iTX11 0 19 rfl rfl (by decide) fl_RX11_40 rfl dX11_bestFrom_38 ?_
              refine lv_iload_n hx hb dX11_bestFrom_41 rfl (lv_at hl 3 rfl) ?_
              refine lv_iconst (v := 0) hx hb dX11_bestFrom_42 (by decide) ?_
              refine va_iast hx hb hK.1 hP hD hS 9 0 rfl rfl (inK rfl (by omega) (by decide)) dX11_bestFrom_43 (fun H locs hP hD hS => ?_)
              have hP : va_P G vwCl (mS cs h q (upd (upd F 17 x1) 18 x2) (vA (vA (vA (vA A 15 g3) 16 g4) 19 (upd a19_32 x32_3.toNatClampNeg (0 : Int32))) 21 a21_6) D B) H := hP
              have hD : va_D A0 (mS cs h q (upd (upd F 17 x1) 18 x2) (vA (vA (vA (vA A 15 g3) 16 g4) 19 (upd a19_32 x32_3.toNatClampNeg (0 : Int32))) 21 a21_6) D B) := hD
              obtain ⟨g20002, eg20002⟩ : ∃ z : Nat → Int32, z = upd a19_32 x32_3.toNatClampNeg (0 : Int32) := ⟨_, rfl⟩
              rw [← eg20002] at hP hD
              have hg20002 : AI 19 g20002 := by rw [eg20002]; exact AI_upd (fun j => ha19_32 j) (show (0 : Int) ≤ (0 : Int32).toInt ∧ (0 : Int32).toInt ≤ 6 by decide)
              obtain ⟨v20003, ev20003⟩ : ∃ z : Int32, z = x32_3 + 1 := ⟨_, rfl⟩
              have tv20003 : v20003.toInt = x32_3.toInt + 1 := by rw [ev20003]; exact addT rfl (by decide) (by omega)
              refine lv_iinc (v := v20003) (lv' := [(3, .int v20003), (0, .ref h), (1, .int a1), (2, .int a2)]) hx hb dX11_bestFrom_44 hl (k := 3) rfl (by rw [ev20003]; rfl) (by decide) rfl (fun ls hl => ?_)
              refine lv_goto (tgt := 32) hx hb dX11_bestFrom_47 (by decide) ?_
              exact ih32 v20003 g20002 H locs ls (by omega) (by omega) hg20002 hP hD hS (lv_sub hl [1, 2, 3, 0] rfl)
        exact B32 _ 0 (A 19) H locs ls (Nat.lt_succ_self _) (by decide) (fun j => hI.2 19 j) hP hD hS (lv_sub hl [1, 2, 3, 0] rfl)
      · have zc5001 := nleK (show (7 : Int32).toInt = 7 by decide) rfl c5001
        refine lv_aload_n hx hb dX11_bestFrom_12 rfl (lv_at hl 0 rfl) ?_
        refine getF (v := .ref (q 21)) hx hb ht hown hK hP iTX11 0 21 rfl rfl (by decide) fl_RX11_46 rfl dX11_bestFrom_13 ?_
        refine lv_iload_n hx hb dX11_bestFrom_16 rfl (lv_at hl 3 rfl) ?_
        refine lv_aload_n hx hb dX11_bestFrom_17 rfl (lv_at hl 0 rfl) ?_
        refine getF (v := .ref (q 15)) hx hb ht hown hK hP iTX11 0 15 rfl rfl (by decide) fl_RX11_34 rfl dX11_bestFrom_18 ?_
        refine lv_iload_n hx hb dX11_bestFrom_21 rfl (lv_at hl 3 rfl) ?_
        refine va_iald hx hb hK.1 hP 7 0 rfl rfl (inK rfl (by omega) (by decide)) dX11_bestFrom_22 ?_
        refine lv_topi (fun v5002 ev5002 => ?_)
        refine va_iast hx hb hK.1 hP hD hS 11 0 rfl rfl (inK rfl (by omega) (by decide)) dX11_bestFrom_23 (fun H locs hP hD hS => ?_)
        obtain ⟨g5003, hP, hD⟩ : ∃ g5003 : Nat → Int32, va_P G vwCl (mS cs h q (upd (upd F 17 x1) 18 x2) (vA (vA (vA A 15 g3) 16 g4) 21 g5003) D B) H ∧ va_D A0 (mS cs h q (upd (upd F 17 x1) 18 x2) (vA (vA (vA A 15 g3) 16 g4) 21 g5003) D B) := ⟨upd a21_6 x6_3.toNatClampNeg v5002, hP, hD⟩
        obtain ⟨v5004, ev5004⟩ : ∃ z : Int32, z = x6_3 + 1 := ⟨_, rfl⟩
        have tv5004 : v5004.toInt = x6_3.toInt + 1 := by rw [ev5004]; exact addT rfl (by decide) (by omega)
        refine lv_iinc (v := v5004) (lv' := [(3, .int v5004), (0, .ref h), (1, .int a1), (2, .int a2)]) hx hb dX11_bestFrom_24 hl (k := 3) rfl (by rw [ev5004]; rfl) (by decide) rfl (fun ls hl => ?_)
        refine lv_goto (tgt := 6) hx hb dX11_bestFrom_27 (by decide) ?_
        exact ih6 v5004 g5003 H locs ls (by omega) (by omega) hP hD hS (lv_sub hl [1, 2, 3, 0] rfl)
  exact B6 _ 0 (A 21) H locs ls (Nat.lt_succ_self _) (by decide) hP hD hS (lv_sub hl [1, 2, 3, 0] rfl)

set_option maxRecDepth 100000 in
set_option maxHeartbeats 8000000 in
theorem sX11_best (l : Launch) (G : va_G) (cs : Nat → ClassId) (h : Nat) (q : Nat → Nat) (F : Nat → Int32) (A : Nat → Nat → Int32) (D : Int64) (B : Nat → Nat → Int64) (hI : IM F A) (a1 : Int32) (a2 : Int32) : ImpI l yX11_best cX11_best 3 (some .int) 6 0 0 G (TY cs) [.ref h, .int a1, .int a2] (mS cs h q F A D B) (fun (r : Int32) (u : Int32 × Int32 × (Nat → Int32) × (Nat → Int32) × (Nat → Int32) × (Nat → Int32) × (Nat → Int32)) => AI 19 u.2.2.2.2.1 ∧ AI 20 u.2.2.2.2.2.1 ∧ (True)) (fun u : Int32 × Int32 × (Nat → Int32) × (Nat → Int32) × (Nat → Int32) × (Nat → Int32) × (Nat → Int32) => (mS cs h q (upd (upd F 17 u.1) 18 u.2.1) (vA (vA (vA (vA (vA A 15 u.2.2.1) 16 u.2.2.2.1) 19 u.2.2.2.2.1) 20 u.2.2.2.2.2.1) 21 u.2.2.2.2.2.2) D B)) := by
  refine mkD (Qc := (QDi G (fun (r : Int32) (u : Int32 × Int32 × (Nat → Int32) × (Nat → Int32) × (Nat → Int32) × (Nat → Int32) × (Nat → Int32)) => AI 19 u.2.2.2.2.1 ∧ AI 20 u.2.2.2.2.2.1 ∧ (True)) (fun u : Int32 × Int32 × (Nat → Int32) × (Nat → Int32) × (Nat → Int32) × (Nat → Int32) × (Nat → Int32) => (mS cs h q (upd (upd F 17 u.1) 18 u.2.1) (vA (vA (vA (vA (vA A 15 u.2.2.1) 16 u.2.2.2.1) 19 u.2.2.2.2.1) 20 u.2.2.2.2.2.1) 21 u.2.2.2.2.2.2) D B)))) (by decide) (by simp [lg_sl, Value.category]) ?_
  intro p e s m args below meth c ls A0 hx hb hml hr hlk hown hmn ht hK hP hD hS hA hl
  have hl : lv_has ls 3 [(0, .ref h), (1, .int a1), (2, .int a2)] := hl
  refine lv_aload_n hx hb dX11_best_0 rfl (lv_at hl 0 rfl) ?_
  refine lv_iload_n hx hb dX11_best_1 rfl (lv_at hl 1 rfl) ?_
  refine lv_i2l hx hb dX11_best_2 rfl ?_
  have bb1 := i32b a1
  refine lv_topl (fun v2 ev2 => ?_)
  have tv2 : v2.toInt = a1.toInt := by rw [ev2]; exact Int32.toInt_toInt64 _
  refine behR (runVP (As := [.long v2]) (rest := []) ⟨hx, hb, hml, hown, ht⟩ (sX11_isRoom l G cs h q F A D B hI v2 ) okV_RX11_89 ⟨by decide, by decide⟩ hK hP [0, 1, 2, 3, 4, 5, 6, 7, 8, 9, 10, 11, 12, 13, 14, 15, 16, 17, 18, 19] rfl 0 rfl rfl hl.1 rfl (Nat.le_of_ble_eq_true rfl) dX11_best_3 ⟨by decide, by decide⟩) hP hS hA (fun r3 H locs hr3 hP hS => ?_)
  have hr3 : (r3.toInt = 1 ∧ 0 ≤ v2.toInt ∧ v2.toInt < (A 1 4).toInt ∧ v2.toInt ≤ 6 ∧ (A 1 4).toInt ≤ 7) ∨ r3.toInt = 0 := hr3
  refine lv_if_eq (tgt := 30) hx hb dX11_best_6 (by decide) (fun c4 => ?_) (fun c4 => ?_)
  · have zc4 := eqK rfl (show (0 : Int32).toInt = 0 by decide) c4
    refine lv_bipush (v := (-2)) hx hb dX11_best_30 (by decide) ?_
    exact retDi ((F 17), (F 18), (A 15), (A 16), (A 19), (A 20), (A 21)) hx hb hr hlk hP hD hS dX11_best_32 (⟨fun j => hI.2 19 j, fun j => hI.2 20 j, trivial⟩) (Nat.le_of_ble_eq_true rfl) (Nat.le_of_ble_eq_true rfl)
  · have zc4 := neK rfl (show (0 : Int32).toInt = 0 by decide) c4
    refine lv_iload_n hx hb dX11_best_9 rfl (lv_at hl 2 rfl) ?_
    refine lv_i2l hx hb dX11_best_10 rfl ?_
    have bb5 := i32b a2
    refine lv_topl (fun v6 ev6 => ?_)
    have tv6 : v6.toInt = a2.toInt := by rw [ev6]; exact Int32.toInt_toInt64 _
    refine lv_lconst (v := 0) hx hb dX11_best_11 (by decide) ?_
    refine lv_ldc2 hx hb hown (ht _ kl_RX11_325) dX11_best_12 ?_
    refine behR (runSP (As := [.long v6, .long 0, .long 5]) (rest := []) ⟨hx, hb, hml, hown, ht⟩ (sX11_in l G cs v6 0 5 ) okS_RX11_79 ⟨by decide, by decide⟩ hK hP [] rfl hl.1 rfl (Nat.le_of_ble_eq_true rfl) dX11_best_15 ⟨by decide, by decide⟩) hP hS hA (fun r7 H locs hr7 hP hS => ?_)
    have kk8 : (0 : Int64).toInt = 0 := by decide
    have kk9 : (5 : Int64).toInt = 5 := by decide
    have hr7 : (r7.toInt = 1 ∧ (0 : Int64).toInt ≤ v6.toInt ∧ v6.toInt ≤ (5 : Int64).toInt) ∨ (r7.toInt = 0 ∧ (v6.toInt < (0 : Int64).toInt ∨ (5 : Int64).toInt < v6.toInt)) := hr7
    refine lv_if_eq (tgt := 30) hx hb dX11_best_18 (by decide) (fun c10 => ?_) (fun c10 => ?_)
    · have zc10 := eqK rfl (show (0 : Int32).toInt = 0 by decide) c10
      refine lv_bipush (v := (-2)) hx hb dX11_best_30 (by decide) ?_
      exact retDi ((F 17), (F 18), (A 15), (A 16), (A 19), (A 20), (A 21)) hx hb hr hlk hP hD hS dX11_best_32 (⟨fun j => hI.2 19 j, fun j => hI.2 20 j, trivial⟩) (Nat.le_of_ble_eq_true rfl) (Nat.le_of_ble_eq_true rfl)
    · have zc10 := neK rfl (show (0 : Int32).toInt = 0 by decide) c10
      refine lv_aload_n hx hb dX11_best_21 rfl (lv_at hl 0 rfl) ?_
      refine lv_iload_n hx hb dX11_best_22 rfl (lv_at hl 1 rfl) ?_
      refine lv_iload_n hx hb dX11_best_23 rfl (lv_at hl 2 rfl) ?_
      refine behDi (wr := []) (runVD (As := [.int a1, .int a2]) (rest := []) ⟨hx, hb, hml, hown, ht⟩ (sX11_bestFrom l G cs h q F A D B hI a1 a2 (by omega) (by omega)) okV_RX11_327 ⟨by decide, by decide⟩ hK hP hD [0, 1, 2, 3, 4, 5, 6, 7, 8, 9, 10, 11, 12, 13, 14, 15, 16, 17, 18, 19] rfl (by decide) rfl 0 rfl rfl hl.1 rfl (Nat.le_of_ble_eq_true rfl) dX11_best_24 ⟨(Nat.le_of_ble_eq_true rfl), (Nat.le_of_ble_eq_true rfl)⟩) hP hD hS hA [0, 1, 2, 3, 4, 5, 6, 7, 8, 9, 10, 11, 12, 13, 14, 15, 16, 17, 18, 19] [] rfl rfl (by decide) (by decide) (fun r9 u H locs hu hP hD hS => ?_)
      obtain ⟨x11, x12, g13, g14, g15, g16, g17⟩ := u
      obtain ⟨r18, rfl⟩ : ∃ z, z = r9 := ⟨_, rfl⟩
      obtain ⟨hg15, hg16, hr18⟩ := hu
      have hP : va_P G vwCl (mS cs h q (upd (upd F 17 x11) 18 x12) (vA (vA (vA (vA (vA A 15 g13) 16 g14) 19 g15) 20 g16) 21 g17) D B) H := hP
      have hD : va_D A0 (mS cs h q (upd (upd F 17 x11) 18 x12) (vA (vA (vA (vA (vA A 15 g13) 16 g14) 19 g15) 20 g16) 21 g17) D B) := hD
      refine lv_goto (tgt := 32) hx hb dX11_best_27 (by decide) ?_
      exact retDi (x11, x12, g13, g14, g15, g16, g17) hx hb hr hlk hP hD hS dX11_best_32 (⟨hg15, hg16, trivial⟩) (Nat.le_of_ble_eq_true rfl) (Nat.le_of_ble_eq_true rfl)

set_option maxRecDepth 100000 in
set_option maxHeartbeats 8000000 in
theorem sX11_goes (l : Launch) (G : va_G) (cs : Nat → ClassId) (h : Nat) (q : Nat → Nat) (F : Nat → Int32) (A : Nat → Nat → Int32) (D : Int64) (B : Nat → Nat → Int64) (hI : IM F A) (a1 : Int32) (a2 : Int32) (a3 : Int32) : ImpI l yX11_goes cX11_goes 4 (some .int) 6 0 0 G (TY cs) [.ref h, .int a1, .int a2, .int a3] (mS cs h q F A D B) (fun (r : Int32) (u : Int32 × Int32 × (Nat → Int32) × (Nat → Int32) × (Nat → Int32) × (Nat → Int32) × (Nat → Int32)) => AI 19 u.2.2.2.2.1 ∧ AI 20 u.2.2.2.2.2.1 ∧ (True)) (fun u : Int32 × Int32 × (Nat → Int32) × (Nat → Int32) × (Nat → Int32) × (Nat → Int32) × (Nat → Int32) => (mS cs h q (upd (upd F 17 u.1) 18 u.2.1) (vA (vA (vA (vA (vA A 15 u.2.2.1) 16 u.2.2.2.1) 19 u.2.2.2.2.1) 20 u.2.2.2.2.2.1) 21 u.2.2.2.2.2.2) D B)) := by
  refine mkD (Qc := (QDi G (fun (r : Int32) (u : Int32 × Int32 × (Nat → Int32) × (Nat → Int32) × (Nat → Int32) × (Nat → Int32) × (Nat → Int32)) => AI 19 u.2.2.2.2.1 ∧ AI 20 u.2.2.2.2.2.1 ∧ (True)) (fun u : Int32 × Int32 × (Nat → Int32) × (Nat → Int32) × (Nat → Int32) × (Nat → Int32) × (Nat → Int32) => (mS cs h q (upd (upd F 17 u.1) 18 u.2.1) (vA (vA (vA (vA (vA A 15 u.2.2.1) 16 u.2.2.2.1) 19 u.2.2.2.2.1) 20 u.2.2.2.2.2.1) 21 u.2.2.2.2.2.2) D B)))) (by decide) (by simp [lg_sl, Value.category]) ?_
  intro p e s m args below meth c ls A0 hx hb hml hr hlk hown hmn ht hK hP hD hS hA hl
  have hl : lv_has ls 4 [(0, .ref h), (1, .int a1), (2, .int a2), (3, .int a3)] := hl
  refine lv_aload_n hx hb dX11_goes_0 rfl (lv_at hl 0 rfl) ?_
  refine lv_iload_n hx hb dX11_goes_1 rfl (lv_at hl 1 rfl) ?_
  refine lv_i2l hx hb dX11_goes_2 rfl ?_
  have bb1 := i32b a1
  refine lv_topl (fun v2 ev2 => ?_)
  have tv2 : v2.toInt = a1.toInt := by rw [ev2]; exact Int32.toInt_toInt64 _
  refine behR (runVP (As := [.long v2]) (rest := []) ⟨hx, hb, hml, hown, ht⟩ (sX11_isRoom l G cs h q F A D B hI v2 ) okV_RX11_89 ⟨by decide, by decide⟩ hK hP [0, 1, 2, 3, 4, 5, 6, 7, 8, 9, 10, 11, 12, 13, 14, 15, 16, 17, 18, 19] rfl 0 rfl rfl hl.1 rfl (Nat.le_of_ble_eq_true rfl) dX11_goes_3 ⟨by decide, by decide⟩) hP hS hA (fun r3 H locs hr3 hP hS => ?_)
  have hr3 : (r3.toInt = 1 ∧ 0 ≤ v2.toInt ∧ v2.toInt < (A 1 4).toInt ∧ v2.toInt ≤ 6 ∧ (A 1 4).toInt ≤ 7) ∨ r3.toInt = 0 := hr3
  refine lv_if_eq (tgt := 21) hx hb dX11_goes_6 (by decide) (fun c4 => ?_) (fun c4 => ?_)
  · have zc4 := eqK rfl (show (0 : Int32).toInt = 0 by decide) c4
    refine lv_bipush (v := (-2)) hx hb dX11_goes_21 (by decide) ?_
    exact retDi ((F 17), (F 18), (A 15), (A 16), (A 19), (A 20), (A 21)) hx hb hr hlk hP hD hS dX11_goes_23 (⟨fun j => hI.2 19 j, fun j => hI.2 20 j, trivial⟩) (Nat.le_of_ble_eq_true rfl) (Nat.le_of_ble_eq_true rfl)
  · have zc4 := neK rfl (show (0 : Int32).toInt = 0 by decide) c4
    refine lv_iload_n hx hb dX11_goes_9 rfl (lv_at hl 2 rfl) ?_
    refine lv_i2l hx hb dX11_goes_10 rfl ?_
    have bb5 := i32b a2
    refine lv_topl (fun v6 ev6 => ?_)
    have tv6 : v6.toInt = a2.toInt := by rw [ev6]; exact Int32.toInt_toInt64 _
    refine lv_lconst (v := 0) hx hb dX11_goes_11 (by decide) ?_
    refine lv_ldc2 hx hb hown (ht _ kl_RX11_325) dX11_goes_12 ?_
    refine behR (runSP (As := [.long v6, .long 0, .long 5]) (rest := []) ⟨hx, hb, hml, hown, ht⟩ (sX11_in l G cs v6 0 5 ) okS_RX11_79 ⟨by decide, by decide⟩ hK hP [] rfl hl.1 rfl (Nat.le_of_ble_eq_true rfl) dX11_goes_15 ⟨by decide, by decide⟩) hP hS hA (fun r7 H locs hr7 hP hS => ?_)
    have kk8 : (0 : Int64).toInt = 0 := by decide
    have kk9 : (5 : Int64).toInt = 5 := by decide
    have hr7 : (r7.toInt = 1 ∧ (0 : Int64).toInt ≤ v6.toInt ∧ v6.toInt ≤ (5 : Int64).toInt) ∨ (r7.toInt = 0 ∧ (v6.toInt < (0 : Int64).toInt ∨ (5 : Int64).toInt < v6.toInt)) := hr7
    refine lv_if_ne (tgt := 24) hx hb dX11_goes_18 (by decide) (fun c10 => ?_) (fun c10 => ?_)
    · have zc10 := neK rfl (show (0 : Int32).toInt = 0 by decide) c10
      refine lv_aload_n hx hb dX11_goes_24 rfl (lv_at hl 0 rfl) ?_
      refine lv_iload_n hx hb dX11_goes_25 rfl (lv_at hl 1 rfl) ?_
      refine lv_iload_n hx hb dX11_goes_26 rfl (lv_at hl 2 rfl) ?_
      refine behDi (wr := []) (runVD (As := [.int a1, .int a2]) (rest := []) ⟨hx, hb, hml, hown, ht⟩ (sX11_bestFrom l G cs h q F A D B hI a1 a2 (by omega) (by omega)) okV_RX11_327 ⟨by decide, by decide⟩ hK hP hD [0, 1, 2, 3, 4, 5, 6, 7, 8, 9, 10, 11, 12, 13, 14, 15, 16, 17, 18, 19] rfl (by decide) rfl 0 rfl rfl hl.1 rfl (Nat.le_of_ble_eq_true rfl) dX11_goes_27 ⟨(Nat.le_of_ble_eq_true rfl), (Nat.le_of_ble_eq_true rfl)⟩) hP hD hS hA [0, 1, 2, 3, 4, 5, 6, 7, 8, 9, 10, 11, 12, 13, 14, 15, 16, 17, 18, 19] [] rfl rfl (by decide) (by decide) (fun r9 u H locs hu hP hD hS => ?_)
      obtain ⟨x11, x12, g13, g14, g15, g16, g17⟩ := u
      obtain ⟨r18, rfl⟩ : ∃ z, z = r9 := ⟨_, rfl⟩
      obtain ⟨hg15, hg16, hr18⟩ := hu
      have hP : va_P G vwCl (mS cs h q (upd (upd F 17 x11) 18 x12) (vA (vA (vA (vA (vA A 15 g13) 16 g14) 19 g15) 20 g16) 21 g17) D B) H := hP
      have hD : va_D A0 (mS cs h q (upd (upd F 17 x11) 18 x12) (vA (vA (vA (vA (vA A 15 g13) 16 g14) 19 g15) 20 g16) 21 g17) D B) := hD
      refine lv_pop hx hb dX11_goes_30 rfl ?_
      refine lv_iload_n hx hb dX11_goes_31 rfl (lv_at hl 3 rfl) ?_
      refine lv_i2l hx hb dX11_goes_32 rfl ?_
      have bb19 := i32b a3
      refine lv_topl (fun v20 ev20 => ?_)
      have tv20 : v20.toInt = a3.toInt := by rw [ev20]; exact Int32.toInt_toInt64 _
      refine lv_lconst (v := 0) hx hb dX11_goes_33 (by decide) ?_
      refine lv_iload_n hx hb dX11_goes_34 rfl (lv_at hl 2 rfl) ?_
      refine lv_iconst (v := 1) hx hb dX11_goes_35 (by decide) ?_
      refine lv_isub hx hb dX11_goes_36 ?_
      refine lv_topi (fun v21 ev21 => ?_)
      have tv21 : v21.toInt = a2.toInt - 1 := by rw [ev21]; exact subT rfl (show (1 : Int32).toInt = 1 by decide) (by omega)
      refine lv_i2l hx hb dX11_goes_37 rfl ?_
      refine lv_topl (fun v22 ev22 => ?_)
      have tv22 : v22.toInt = v21.toInt := by rw [ev22]; exact Int32.toInt_toInt64 _
      refine behR (runSP (As := [.long v20, .long 0, .long v22]) (rest := []) ⟨hx, hb, hml, hown, ht⟩ (sX11_in l G cs v20 0 v22 ) okS_RX11_79 ⟨by decide, by decide⟩ hK hP [] rfl hl.1 rfl (Nat.le_of_ble_eq_true rfl) dX11_goes_38 ⟨by decide, by decide⟩) hP hS hA (fun r23 H locs hr23 hP hS => ?_)
      have kk24 : (0 : Int64).toInt = 0 := by decide
      have hr23 : (r23.toInt = 1 ∧ (0 : Int64).toInt ≤ v20.toInt ∧ v20.toInt ≤ v22.toInt) ∨ (r23.toInt = 0 ∧ (v20.toInt < (0 : Int64).toInt ∨ v22.toInt < v20.toInt)) := hr23
      refine lv_if_eq (tgt := 53) hx hb dX11_goes_41 (by decide) (fun c25 => ?_) (fun c25 => ?_)
      · have zc25 := eqK rfl (show (0 : Int32).toInt = 0 by decide) c25
        refine lv_iconst (v := (-1)) hx hb dX11_goes_53 (by decide) ?_
        exact retDi (x11, x12, g13, g14, g15, g16, g17) hx hb hr hlk hP hD hS dX11_goes_54 (⟨hg15, hg16, trivial⟩) (Nat.le_of_ble_eq_true rfl) (Nat.le_of_ble_eq_true rfl)
      · have zc25 := neK rfl (show (0 : Int32).toInt = 0 by decide) c25
        refine lv_aload_n hx hb dX11_goes_44 rfl (lv_at hl 0 rfl) ?_
        refine getF (v := .ref (q 20)) hx hb ht hown hK hP iTX11 0 20 rfl rfl (by decide) fl_RX11_43 rfl dX11_goes_45 ?_
        refine lv_iload_n hx hb dX11_goes_48 rfl (lv_at hl 3 rfl) ?_
        refine va_iald hx hb hK.1 hP 10 0 rfl rfl (inK rfl (by omega) (by decide)) dX11_goes_49 ?_
        refine lv_topi (fun v26 ev26 => ?_)
        have zf27 : (0 : Int) ≤ v26.toInt ∧ v26.toInt ≤ 7 := by rw [ev26]; exact (hg16 _)
        refine lv_goto (tgt := 54) hx hb dX11_goes_50 (by decide) ?_
        exact retDi (x11, x12, g13, g14, g15, g16, g17) hx hb hr hlk hP hD hS dX11_goes_54 (⟨hg15, hg16, trivial⟩) (Nat.le_of_ble_eq_true rfl) (Nat.le_of_ble_eq_true rfl)
    · have zc10 := eqK rfl (show (0 : Int32).toInt = 0 by decide) c10
      refine lv_bipush (v := (-2)) hx hb dX11_goes_21 (by decide) ?_
      exact retDi ((F 17), (F 18), (A 15), (A 16), (A 19), (A 20), (A 21)) hx hb hr hlk hP hD hS dX11_goes_23 (⟨fun j => hI.2 19 j, fun j => hI.2 20 j, trivial⟩) (Nat.le_of_ble_eq_true rfl) (Nat.le_of_ble_eq_true rfl)

set_option maxRecDepth 100000 in
set_option maxHeartbeats 8000000 in
theorem sX11_begins (l : Launch) (G : va_G) (cs : Nat → ClassId) (h : Nat) (q : Nat → Nat) (F : Nat → Int32) (A : Nat → Nat → Int32) (D : Int64) (B : Nat → Nat → Int64) (hI : IM F A) (a1 : Int32) : ImpI l yX11_begins cX11_begins 6 (some .int) 6 0 0 G (TY cs) [.ref h, .int a1] (mS cs h q F A D B) (fun (r : Int32) (u : Int32 × Int32 × (Nat → Int32) × (Nat → Int32) × (Nat → Int32) × (Nat → Int32) × (Nat → Int32)) => AI 19 u.2.2.2.2.1 ∧ AI 20 u.2.2.2.2.2.1 ∧ (True)) (fun u : Int32 × Int32 × (Nat → Int32) × (Nat → Int32) × (Nat → Int32) × (Nat → Int32) × (Nat → Int32) => (mS cs h q (upd (upd F 17 u.1) 18 u.2.1) (vA (vA (vA (vA (vA A 15 u.2.2.1) 16 u.2.2.2.1) 19 u.2.2.2.2.1) 20 u.2.2.2.2.2.1) 21 u.2.2.2.2.2.2) D B)) := by
  refine mkD (Qc := (QDi G (fun (r : Int32) (u : Int32 × Int32 × (Nat → Int32) × (Nat → Int32) × (Nat → Int32) × (Nat → Int32) × (Nat → Int32)) => AI 19 u.2.2.2.2.1 ∧ AI 20 u.2.2.2.2.2.1 ∧ (True)) (fun u : Int32 × Int32 × (Nat → Int32) × (Nat → Int32) × (Nat → Int32) × (Nat → Int32) × (Nat → Int32) => (mS cs h q (upd (upd F 17 u.1) 18 u.2.1) (vA (vA (vA (vA (vA A 15 u.2.2.1) 16 u.2.2.2.1) 19 u.2.2.2.2.1) 20 u.2.2.2.2.2.1) 21 u.2.2.2.2.2.2) D B)))) (by decide) (by simp [lg_sl, Value.category]) ?_
  intro p e s m args below meth c ls A0 hx hb hml hr hlk hown hmn ht hK hP hD hS hA hl
  have hl : lv_has ls 6 [(0, .ref h), (1, .int a1)] := hl
  refine lv_iload_n hx hb dX11_begins_0 rfl (lv_at hl 1 rfl) ?_
  refine lv_i2l hx hb dX11_begins_1 rfl ?_
  have bb1 := i32b a1
  refine lv_topl (fun v2 ev2 => ?_)
  have tv2 : v2.toInt = a1.toInt := by rw [ev2]; exact Int32.toInt_toInt64 _
  refine lv_lconst (v := 0) hx hb dX11_begins_2 (by decide) ?_
  refine lv_ldc2 hx hb hown (ht _ kl_RX11_325) dX11_begins_3 ?_
  refine behR (runSP (As := [.long v2, .long 0, .long 5]) (rest := []) ⟨hx, hb, hml, hown, ht⟩ (sX11_in l G cs v2 0 5 ) okS_RX11_79 ⟨by decide, by decide⟩ hK hP [] rfl hl.1 rfl (Nat.le_of_ble_eq_true rfl) dX11_begins_6 ⟨by decide, by decide⟩) hP hS hA (fun r3 H locs hr3 hP hS => ?_)
  have kk4 : (0 : Int64).toInt = 0 := by decide
  have kk5 : (5 : Int64).toInt = 5 := by decide
  have hr3 : (r3.toInt = 1 ∧ (0 : Int64).toInt ≤ v2.toInt ∧ v2.toInt ≤ (5 : Int64).toInt) ∨ (r3.toInt = 0 ∧ (v2.toInt < (0 : Int64).toInt ∨ (5 : Int64).toInt < v2.toInt)) := hr3
  refine lv_if_eq (tgt := 21) hx hb dX11_begins_9 (by decide) (fun c6 => ?_) (fun c6 => ?_)
  · have zc6 := eqK rfl (show (0 : Int32).toInt = 0 by decide) c6
    refine lv_bipush (v := (-2)) hx hb dX11_begins_21 (by decide) ?_
    exact retDi ((F 17), (F 18), (A 15), (A 16), (A 19), (A 20), (A 21)) hx hb hr hlk hP hD hS dX11_begins_23 (⟨fun j => hI.2 19 j, fun j => hI.2 20 j, trivial⟩) (Nat.le_of_ble_eq_true rfl) (Nat.le_of_ble_eq_true rfl)
  · have zc6 := neK rfl (show (0 : Int32).toInt = 0 by decide) c6
    refine lv_aload_n hx hb dX11_begins_12 rfl (lv_at hl 0 rfl) ?_
    refine getF (v := .ref (q 1)) hx hb ht hown hK hP iTX11 0 1 rfl rfl (by decide) fl_RX11_9 rfl dX11_begins_13 ?_
    refine lv_iconst (v := 4) hx hb dX11_begins_16 (by decide) ?_
    refine va_iald hx hb hK.1 hP 1 0 rfl rfl (show ¬ (_ ∨ _) by decide) dX11_begins_17 ?_
    refine W.eq (g2 := F0 m 18 ls [.int (A 1 4)]) rfl ?_
    have zf7 : (0 : Int) ≤ (A 1 4).toInt ∧ (A 1 4).toInt ≤ 7 := (hI.2 1 4)
    refine lv_if_ne (tgt := 24) hx hb dX11_begins_18 (by decide) (fun c8 => ?_) (fun c8 => ?_)
    · have zc8 := neK rfl (show (0 : Int32).toInt = 0 by decide) c8
      refine lv_iconst (v := (-1)) hx hb dX11_begins_24 (by decide) ?_
      refine lv_istore_n (lv' := [(2, .int (-1)), (0, .ref h), (1, .int a1)]) hx hb dX11_begins_25 rfl hl (by decide) rfl (fun ls hl => ?_)
      refine lv_iconst (v := (-1)) hx hb dX11_begins_26 (by decide) ?_
      refine lv_istore_n (lv' := [(3, .int (-1)), (2, .int (-1)), (0, .ref h), (1, .int a1)]) hx hb dX11_begins_27 rfl hl (by decide) rfl (fun ls hl => ?_)
      refine lv_iconst (v := 0) hx hb dX11_begins_28 (by decide) ?_
      refine lv_istore (lv' := [(4, .int 0), (3, .int (-1)), (2, .int (-1)), (0, .ref h), (1, .int a1)]) hx hb dX11_begins_29 hl (by decide) rfl (fun ls hl => ?_)
      have B31 : ∀ (n : Nat) (x31_2 : Int32) (x31_3 : Int32) (x31_4 : Int32) (f17_31 : Int32) (f18_31 : Int32) (a15_31 : (Nat → Int32)) (a16_31 : (Nat → Int32)) (a19_31 : (Nat → Int32)) (a20_31 : (Nat → Int32)) (a21_31 : (Nat → Int32)) (H : Heap) (locs : List Loc) (ls : Array Slot), (7 - x31_4.toInt).toNat < n → (-1 : Int) ≤ x31_2.toInt ∧ x31_2.toInt ≤ 6 → (-1 : Int) ≤ x31_3.toInt → (0 : Int) ≤ x31_4.toInt ∧ x31_4.toInt ≤ 7 → AI 19 a19_31 → AI 20 a20_31 → va_P G vwCl (mS cs h q (upd (upd F 17 f17_31) 18 f18_31) (vA (vA (vA (vA (vA A 15 a15_31) 16 a16_31) 19 a19_31) 20 a20_31) 21 a21_31) D B) H → va_D A0 (mS cs h q (upd (upd F 17 f17_31) 18 f18_31) (vA (vA (vA (vA (vA A 15 a15_31) 16 a16_31) 19 a19_31) 20 a20_31) 21 a21_31) D B) → va_S A0 s.heap H locs → lv_has ls 6 [(0, .ref h), (1, .int a1), (2, .int x31_2), (3, .int x31_3), (4, .int x31_4)] → W p l e (rmk 6 0 0) s m args below meth c H locs 0 0 (MQ below ((QDi G (fun (r : Int32) (u : Int32 × Int32 × (Nat → Int32) × (Nat → Int32) × (Nat → Int32) × (Nat → Int32) × (Nat → Int32)) => AI 19 u.2.2.2.2.1 ∧ AI 20 u.2.2.2.2.2.1 ∧ (True)) (fun u : Int32 × Int32 × (Nat → Int32) × (Nat → Int32) × (Nat → Int32) × (Nat → Int32) × (Nat → Int32) => (mS cs h q (upd (upd F 17 u.1) 18 u.2.1) (vA (vA (vA (vA (vA A 15 u.2.2.1) 16 u.2.2.2.1) 19 u.2.2.2.2.1) 20 u.2.2.2.2.2.1) 21 u.2.2.2.2.2.2) D B))) A0) args s 0 0 A0) (F0 m 31 ls []) := by
        intro n
        induction n with
        | zero => intro x31_2 x31_3 x31_4 f17_31 f18_31 a15_31 a16_31 a19_31 a20_31 a21_31 H locs ls hmeas hx31_2 hx31_3 hx31_4 ha19_31 ha20_31 hP hD hS hl; exact absurd hmeas (Nat.not_lt_zero _)
        | succ n ih31 =>
          intro x31_2 x31_3 x31_4 f17_31 f18_31 a15_31 a16_31 a19_31 a20_31 a21_31 H locs ls hmeas hx31_2 hx31_3 hx31_4 ha19_31 ha20_31 hP hD hS hl
          refine lv_iload hx hb dX11_begins_31 (lv_at hl 4 rfl) ?_
          refine lv_aload_n hx hb dX11_begins_33 rfl (lv_at hl 0 rfl) ?_
          refine getF (v := .ref (q 1)) hx hb ht hown hK hP iTX11 0 1 rfl rfl (by decide) fl_RX11_9 rfl dX11_begins_34 ?_
          refine lv_iconst (v := 4) hx hb dX11_begins_37 (by decide) ?_
          refine va_iald hx hb hK.1 hP 1 0 rfl rfl (show ¬ (_ ∨ _) by decide) dX11_begins_38 ?_
          refine W.eq (g2 := F0 m 39 ls [.int (A 1 4), .int x31_4]) rfl ?_
          have zf18001 : (0 : Int) ≤ (A 1 4).toInt ∧ (A 1 4).toInt ≤ 7 := (hI.2 1 4)
          refine lv_icmp_ge (tgt := 72) hx hb dX11_begins_39 (by decide) (fun c18002 => ?_) (fun c18002 => ?_)
          · have zc18002 := leK rfl rfl c18002
            refine lv_iload_n hx hb dX11_begins_72 rfl (lv_at hl 2 rfl) ?_
            exact retDi (f17_31, f18_31, a15_31, a16_31, a19_31, a20_31, a21_31) hx hb hr hlk hP hD hS dX11_begins_73 (⟨ha19_31, ha20_31, trivial⟩) (Nat.le_of_ble_eq_true rfl) (Nat.le_of_ble_eq_true rfl)
          · have zc18002 := nleK rfl rfl c18002
            refine lv_aload_n hx hb dX11_begins_42 rfl (lv_at hl 0 rfl) ?_
            refine lv_iload hx hb dX11_begins_43 (lv_at hl 4 rfl) ?_
            refine lv_iload_n hx hb dX11_begins_45 rfl (lv_at hl 1 rfl) ?_
            refine behDi (wr := []) (runVD (As := [.int x31_4, .int a1]) (rest := []) ⟨hx, hb, hml, hown, ht⟩ (sX11_bestFrom l G cs h q (upd (upd F 17 f17_31) 18 f18_31) (vA (vA (vA (vA (vA A 15 a15_31) 16 a16_31) 19 a19_31) 20 a20_31) 21 a21_31) D B (IM_arr (k := 21) (IM_arr (k := 20) (IM_arr (k := 19) (IM_arr (k := 16) (IM_arr (k := 15) (IM_put (k := 18) (IM_put (k := 17) hI (i32b _)) (i32b _)) (fun _ => i32b _)) (fun _ => i32b _)) ha19_31) ha20_31) (fun _ => i32b _)) x31_4 a1 (by omega) (by omega)) okV_RX11_327 ⟨by decide, by decide⟩ hK hP hD [0, 1, 2, 3, 4, 5, 6, 7, 8, 9, 10, 11, 12, 13, 14, 15, 16, 17, 18, 19] rfl (by decide) rfl 0 rfl rfl hl.1 rfl (Nat.le_of_ble_eq_true rfl) dX11_begins_46 ⟨(Nat.le_of_ble_eq_true rfl), (Nat.le_of_ble_eq_true rfl)⟩) hP hD hS hA [0, 1, 2, 3, 4, 5, 6, 7, 8, 9, 10, 11, 12, 13, 14, 15, 16, 17, 18, 19] [] rfl rfl (by decide) (by decide) (fun r9 u H locs hu hP hD hS => ?_)
            obtain ⟨x18003, x18004, g18005, g18006, g18007, g18008, g18009⟩ := u
            obtain ⟨r18010, rfl⟩ : ∃ z, z = r9 := ⟨_, rfl⟩
            obtain ⟨hg18007, hg18008, hr18010⟩ := hu
            have hP : va_P G vwCl (mS cs h q (upd (upd F 17 x18003) 18 x18004) (vA (vA (vA (vA (vA A 15 g18005) 16 g18006) 19 g18007) 20 g18008) 21 g18009) D B) H := hP
            have hD : va_D A0 (mS cs h q (upd (upd F 17 x18003) 18 x18004) (vA (vA (vA (vA (vA A 15 g18005) 16 g18006) 19 g18007) 20 g18008) 21 g18009) D B) := hD
            refine lv_istore (lv' := [(5, .int r18010), (0, .ref h), (1, .int a1), (2, .int x31_2), (3, .int x31_3), (4, .int x31_4)]) hx hb dX11_begins_49 hl (by decide) rfl (fun ls hl => ?_)
            refine lv_iload hx hb dX11_begins_51 (lv_at hl 0 rfl) ?_
            refine lv_iload_n hx hb dX11_begins_53 rfl (lv_at hl 4 rfl) ?_
            have B66 : ∀ (x66_2 : Int32) (x66_3 : Int32) (H : Heap) (locs : List Loc) (ls : Array Slot), (-1 : Int) ≤ x66_2.toInt ∧ x66_2.toInt ≤ 6 → (-1 : Int) ≤ x66_3.toInt → va_P G vwCl (mS cs h q (upd (upd F 17 x18003) 18 x18004) (vA (vA (vA (vA (vA A 15 g18005) 16 g18006) 19 g18007) 20 g18008) 21 g18009) D B) H → va_D A0 (mS cs h q (upd (upd F 17 x18003) 18 x18004) (vA (vA (vA (vA (vA A 15 g18005) 16 g18006) 19 g18007) 20 g18008) 21 g18009) D B) → va_S A0 s.heap H locs → lv_has ls 6 [(0, .ref h), (1, .int a1), (2, .int x66_2), (3, .int x66_3), (4, .int x31_4)] → W p l e (rmk 6 0 0) s m args below meth c H locs 0 0 (MQ below ((QDi G (fun (r : Int32) (u : Int32 × Int32 × (Nat → Int32) × (Nat → Int32) × (Nat → Int32) × (Nat → Int32) × (Nat → Int32)) => AI 19 u.2.2.2.2.1 ∧ AI 20 u.2.2.2.2.2.1 ∧ (True)) (fun u : Int32 × Int32 × (Nat → Int32) × (Nat → Int32) × (Nat → Int32) × (Nat → Int32) × (Nat → Int32) => (mS cs h q (upd (upd F 17 u.1) 18 u.2.1) (vA (vA (vA (vA (vA A 15 u.2.2.1) 16 u.2.2.2.1) 19 u.2.2.2.2.1) 20 u.2.2.2.2.2.1) 21 u.2.2.2.2.2.2) D B))) A0) args s 0 0 A0) (F0 m 66 ls []) := by
              intro x66_2 x66_3 H locs ls hx66_2 hx66_3 hP hD hS hl
              obtain ⟨v37001, ev37001⟩ : ∃ z : Int32, z = x31_4 + 1 := ⟨_, rfl⟩
              have tv37001 : v37001.toInt = x31_4.toInt + 1 := by rw [ev37001]; exact addT rfl (by decide) (by omega)
              refine lv_iinc (v := v37001) (lv' := [(4, .int v37001), (0, .ref h), (1, .int a1), (2, .int x66_2), (3, .int x66_3)]) hx hb dX11_begins_66 hl (k := 4) rfl (by rw [ev37001]; rfl) (by decide) rfl (fun ls hl => ?_)
              refine lv_goto (tgt := 31) hx hb dX11_begins_69 (by decide) ?_
              exact ih31 x66_2 x66_3 v37001 x18003 x18004 g18005 g18006 g18007 g18008 g18009 H locs ls (by omega) (by omega) (by omega) (by omega) hg18007 hg18008 hP hD hS (lv_sub hl [1, 2, 3, 4, 0] rfl)
            refine lv_icmp_gt (tgt := 60) hx hb dX11_begins_54 (by decide) (fun c18011 => ?_) (fun c18011 => ?_)
            · have zc18011 := ltK rfl rfl c18011
              refine lv_iload hx hb dX11_begins_60 (lv_at hl 0 rfl) ?_
              refine lv_istore_n (lv' := [(3, .int r18010), (5, .int r18010), (0, .ref h), (1, .int a1), (2, .int x31_2), (4, .int x31_4)]) hx hb dX11_begins_62 rfl hl (by decide) rfl (fun ls hl => ?_)
              refine lv_iload hx hb dX11_begins_63 (lv_at hl 5 rfl) ?_
              refine lv_istore_n (lv' := [(2, .int x31_4), (3, .int r18010), (5, .int r18010), (0, .ref h), (1, .int a1), (4, .int x31_4)]) hx hb dX11_begins_65 rfl hl (by decide) rfl (fun ls hl => ?_)
              exact B66 x31_4 r18010 H locs ls (by omega) (by omega) hP hD hS (lv_sub hl [3, 4, 0, 1, 5] rfl)
            · have zc18011 := nltK rfl rfl c18011
              refine lv_goto (tgt := 66) hx hb dX11_begins_57 (by decide) ?_
              exact B66 x31_2 x31_3 H locs ls (by omega) (by omega) hP hD hS (lv_sub hl [1, 2, 3, 4, 5] rfl)
      exact B31 _ (-1) (-1) 0 (F 17) (F 18) (A 15) (A 16) (A 19) (A 20) (A 21) H locs ls (Nat.lt_succ_self _) (by decide) (by decide) (by decide) (fun j => hI.2 19 j) (fun j => hI.2 20 j) hP hD hS (lv_sub hl [3, 4, 2, 1, 0] rfl)
    · have zc8 := eqK rfl (show (0 : Int32).toInt = 0 by decide) c8
      refine lv_bipush (v := (-2)) hx hb dX11_begins_21 (by decide) ?_
      exact retDi ((F 17), (F 18), (A 15), (A 16), (A 19), (A 20), (A 21)) hx hb hr hlk hP hD hS dX11_begins_23 (⟨fun j => hI.2 19 j, fun j => hI.2 20 j, trivial⟩) (Nat.le_of_ble_eq_true rfl) (Nat.le_of_ble_eq_true rfl)

set_option maxRecDepth 100000 in
set_option maxHeartbeats 8000000 in
theorem sX11_soon (l : Launch) (G : va_G) (cs : Nat → ClassId) (h : Nat) (q : Nat → Nat) (F : Nat → Int32) (A : Nat → Nat → Int32) (D : Int64) (B : Nat → Nat → Int64) (hI : IM F A) (a1 : Int32) (a2 : Int32) : ImpI l yX11_soon cX11_soon 4 (some .int) 6 0 0 G (TY cs) [.ref h, .int a1, .int a2] (mS cs h q F A D B) (fun (r : Int32) (u : Int32 × Int32 × (Nat → Int32) × (Nat → Int32) × (Nat → Int32) × (Nat → Int32) × (Nat → Int32)) => AI 19 u.2.2.2.2.1 ∧ AI 20 u.2.2.2.2.2.1 ∧ (True)) (fun u : Int32 × Int32 × (Nat → Int32) × (Nat → Int32) × (Nat → Int32) × (Nat → Int32) × (Nat → Int32) => (mS cs h q (upd (upd F 17 u.1) 18 u.2.1) (vA (vA (vA (vA (vA A 15 u.2.2.1) 16 u.2.2.2.1) 19 u.2.2.2.2.1) 20 u.2.2.2.2.2.1) 21 u.2.2.2.2.2.2) D B)) := by
  refine mkD (Qc := (QDi G (fun (r : Int32) (u : Int32 × Int32 × (Nat → Int32) × (Nat → Int32) × (Nat → Int32) × (Nat → Int32) × (Nat → Int32)) => AI 19 u.2.2.2.2.1 ∧ AI 20 u.2.2.2.2.2.1 ∧ (True)) (fun u : Int32 × Int32 × (Nat → Int32) × (Nat → Int32) × (Nat → Int32) × (Nat → Int32) × (Nat → Int32) => (mS cs h q (upd (upd F 17 u.1) 18 u.2.1) (vA (vA (vA (vA (vA A 15 u.2.2.1) 16 u.2.2.2.1) 19 u.2.2.2.2.1) 20 u.2.2.2.2.2.1) 21 u.2.2.2.2.2.2) D B)))) (by decide) (by simp [lg_sl, Value.category]) ?_
  intro p e s m args below meth c ls A0 hx hb hml hr hlk hown hmn ht hK hP hD hS hA hl
  have hl : lv_has ls 4 [(0, .ref h), (1, .int a1), (2, .int a2)] := hl
  refine lv_aload_n hx hb dX11_soon_0 rfl (lv_at hl 0 rfl) ?_
  refine lv_iload_n hx hb dX11_soon_1 rfl (lv_at hl 1 rfl) ?_
  refine lv_i2l hx hb dX11_soon_2 rfl ?_
  have bb1 := i32b a1
  refine lv_topl (fun v2 ev2 => ?_)
  have tv2 : v2.toInt = a1.toInt := by rw [ev2]; exact Int32.toInt_toInt64 _
  refine behR (runVP (As := [.long v2]) (rest := []) ⟨hx, hb, hml, hown, ht⟩ (sX11_isRoom l G cs h q F A D B hI v2 ) okV_RX11_89 ⟨by decide, by decide⟩ hK hP [0, 1, 2, 3, 4, 5, 6, 7, 8, 9, 10, 11, 12, 13, 14, 15, 16, 17, 18, 19] rfl 0 rfl rfl hl.1 rfl (Nat.le_of_ble_eq_true rfl) dX11_soon_3 ⟨by decide, by decide⟩) hP hS hA (fun r3 H locs hr3 hP hS => ?_)
  have hr3 : (r3.toInt = 1 ∧ 0 ≤ v2.toInt ∧ v2.toInt < (A 1 4).toInt ∧ v2.toInt ≤ 6 ∧ (A 1 4).toInt ≤ 7) ∨ r3.toInt = 0 := hr3
  refine lv_if_eq (tgt := 21) hx hb dX11_soon_6 (by decide) (fun c4 => ?_) (fun c4 => ?_)
  · have zc4 := eqK rfl (show (0 : Int32).toInt = 0 by decide) c4
    refine lv_bipush (v := (-2)) hx hb dX11_soon_21 (by decide) ?_
    exact retDi ((F 17), (F 18), (A 15), (A 16), (A 19), (A 20), (A 21)) hx hb hr hlk hP hD hS dX11_soon_23 (⟨fun j => hI.2 19 j, fun j => hI.2 20 j, trivial⟩) (Nat.le_of_ble_eq_true rfl) (Nat.le_of_ble_eq_true rfl)
  · have zc4 := neK rfl (show (0 : Int32).toInt = 0 by decide) c4
    refine lv_iload_n hx hb dX11_soon_9 rfl (lv_at hl 2 rfl) ?_
    refine lv_i2l hx hb dX11_soon_10 rfl ?_
    have bb5 := i32b a2
    refine lv_topl (fun v6 ev6 => ?_)
    have tv6 : v6.toInt = a2.toInt := by rw [ev6]; exact Int32.toInt_toInt64 _
    refine lv_lconst (v := 0) hx hb dX11_soon_11 (by decide) ?_
    refine lv_ldc2 hx hb hown (ht _ kl_RX11_273) dX11_soon_12 ?_
    refine behR (runSP (As := [.long v6, .long 0, .long 1000000]) (rest := []) ⟨hx, hb, hml, hown, ht⟩ (sX11_in l G cs v6 0 1000000 ) okS_RX11_79 ⟨by decide, by decide⟩ hK hP [] rfl hl.1 rfl (Nat.le_of_ble_eq_true rfl) dX11_soon_15 ⟨by decide, by decide⟩) hP hS hA (fun r7 H locs hr7 hP hS => ?_)
    have kk8 : (0 : Int64).toInt = 0 := by decide
    have kk9 : (1000000 : Int64).toInt = 1000000 := by decide
    have hr7 : (r7.toInt = 1 ∧ (0 : Int64).toInt ≤ v6.toInt ∧ v6.toInt ≤ (1000000 : Int64).toInt) ∨ (r7.toInt = 0 ∧ (v6.toInt < (0 : Int64).toInt ∨ (1000000 : Int64).toInt < v6.toInt)) := hr7
    refine lv_if_ne (tgt := 24) hx hb dX11_soon_18 (by decide) (fun c10 => ?_) (fun c10 => ?_)
    · have zc10 := neK rfl (show (0 : Int32).toInt = 0 by decide) c10
      refine lv_iconst (v := 0) hx hb dX11_soon_24 (by decide) ?_
      refine lv_istore_n (lv' := [(3, .int 0), (0, .ref h), (1, .int a1), (2, .int a2)]) hx hb dX11_soon_25 rfl hl (by decide) rfl (fun ls hl => ?_)
      have B26 : ∀ (n : Nat) (x26_3 : Int32) (f17_26 : Int32) (f18_26 : Int32) (a15_26 : (Nat → Int32)) (a16_26 : (Nat → Int32)) (a19_26 : (Nat → Int32)) (a20_26 : (Nat → Int32)) (a21_26 : (Nat → Int32)) (H : Heap) (locs : List Loc) (ls : Array Slot), (6 - x26_3.toInt).toNat < n → (0 : Int) ≤ x26_3.toInt ∧ x26_3.toInt ≤ 6 → AI 19 a19_26 → AI 20 a20_26 → va_P G vwCl (mS cs h q (upd (upd F 17 f17_26) 18 f18_26) (vA (vA (vA (vA (vA A 15 a15_26) 16 a16_26) 19 a19_26) 20 a20_26) 21 a21_26) D B) H → va_D A0 (mS cs h q (upd (upd F 17 f17_26) 18 f18_26) (vA (vA (vA (vA (vA A 15 a15_26) 16 a16_26) 19 a19_26) 20 a20_26) 21 a21_26) D B) → va_S A0 s.heap H locs → lv_has ls 4 [(0, .ref h), (1, .int a1), (2, .int a2), (3, .int x26_3)] → W p l e (rmk 6 0 0) s m args below meth c H locs 0 0 (MQ below ((QDi G (fun (r : Int32) (u : Int32 × Int32 × (Nat → Int32) × (Nat → Int32) × (Nat → Int32) × (Nat → Int32) × (Nat → Int32)) => AI 19 u.2.2.2.2.1 ∧ AI 20 u.2.2.2.2.2.1 ∧ (True)) (fun u : Int32 × Int32 × (Nat → Int32) × (Nat → Int32) × (Nat → Int32) × (Nat → Int32) × (Nat → Int32) => (mS cs h q (upd (upd F 17 u.1) 18 u.2.1) (vA (vA (vA (vA (vA A 15 u.2.2.1) 16 u.2.2.2.1) 19 u.2.2.2.2.1) 20 u.2.2.2.2.2.1) 21 u.2.2.2.2.2.2) D B))) A0) args s 0 0 A0) (F0 m 26 ls []) := by
        intro n
        induction n with
        | zero => intro x26_3 f17_26 f18_26 a15_26 a16_26 a19_26 a20_26 a21_26 H locs ls hmeas hx26_3 ha19_26 ha20_26 hP hD hS hl; exact absurd hmeas (Nat.not_lt_zero _)
        | succ n ih26 =>
          intro x26_3 f17_26 f18_26 a15_26 a16_26 a19_26 a20_26 a21_26 H locs ls hmeas hx26_3 ha19_26 ha20_26 hP hD hS hl
          refine lv_iload_n hx hb dX11_soon_26 rfl (lv_at hl 3 rfl) ?_
          refine lv_iconst (v := 5) hx hb dX11_soon_27 (by decide) ?_
          refine lv_icmp_gt (tgt := 49) hx hb dX11_soon_28 (by decide) (fun c14001 => ?_) (fun c14001 => ?_)
          · have zc14001 := ltK (show (5 : Int32).toInt = 5 by decide) rfl c14001
            refine lv_iconst (v := (-1)) hx hb dX11_soon_49 (by decide) ?_
            exact retDi (f17_26, f18_26, a15_26, a16_26, a19_26, a20_26, a21_26) hx hb hr hlk hP hD hS dX11_soon_50 (⟨ha19_26, ha20_26, trivial⟩) (Nat.le_of_ble_eq_true rfl) (Nat.le_of_ble_eq_true rfl)
          · have zc14001 := nltK (show (5 : Int32).toInt = 5 by decide) rfl c14001
            refine lv_aload_n hx hb dX11_soon_31 rfl (lv_at hl 0 rfl) ?_
            refine lv_iload_n hx hb dX11_soon_32 rfl (lv_at hl 1 rfl) ?_
            refine lv_iload_n hx hb dX11_soon_33 rfl (lv_at hl 3 rfl) ?_
            refine behDi (wr := []) (runVD (As := [.int a1, .int x26_3]) (rest := []) ⟨hx, hb, hml, hown, ht⟩ (sX11_bestFrom l G cs h q (upd (upd F 17 f17_26) 18 f18_26) (vA (vA (vA (vA (vA A 15 a15_26) 16 a16_26) 19 a19_26) 20 a20_26) 21 a21_26) D B (IM_arr (k := 21) (IM_arr (k := 20) (IM_arr (k := 19) (IM_arr (k := 16) (IM_arr (k := 15) (IM_put (k := 18) (IM_put (k := 17) hI (i32b _)) (i32b _)) (fun _ => i32b _)) (fun _ => i32b _)) ha19_26) ha20_26) (fun _ => i32b _)) a1 x26_3 (by omega) (by omega)) okV_RX11_327 ⟨by decide, by decide⟩ hK hP hD [0, 1, 2, 3, 4, 5, 6, 7, 8, 9, 10, 11, 12, 13, 14, 15, 16, 17, 18, 19] rfl (by decide) rfl 0 rfl rfl hl.1 rfl (Nat.le_of_ble_eq_true rfl) dX11_soon_34 ⟨(Nat.le_of_ble_eq_true rfl), (Nat.le_of_ble_eq_true rfl)⟩) hP hD hS hA [0, 1, 2, 3, 4, 5, 6, 7, 8, 9, 10, 11, 12, 13, 14, 15, 16, 17, 18, 19] [] rfl rfl (by decide) (by decide) (fun r9 u H locs hu hP hD hS => ?_)
            obtain ⟨x14002, x14003, g14004, g14005, g14006, g14007, g14008⟩ := u
            obtain ⟨r14009, rfl⟩ : ∃ z, z = r9 := ⟨_, rfl⟩
            obtain ⟨hg14006, hg14007, hr14009⟩ := hu
            have hP : va_P G vwCl (mS cs h q (upd (upd F 17 x14002) 18 x14003) (vA (vA (vA (vA (vA A 15 g14004) 16 g14005) 19 g14006) 20 g14007) 21 g14008) D B) H := hP
            have hD : va_D A0 (mS cs h q (upd (upd F 17 x14002) 18 x14003) (vA (vA (vA (vA (vA A 15 g14004) 16 g14005) 19 g14006) 20 g14007) 21 g14008) D B) := hD
            refine lv_iload_n hx hb dX11_soon_37 rfl (lv_at hl 2 rfl) ?_
            refine lv_icmp_lt (tgt := 43) hx hb dX11_soon_38 (by decide) (fun c14010 => ?_) (fun c14010 => ?_)
            · have zc14010 := ltK rfl rfl c14010
              obtain ⟨v14011, ev14011⟩ : ∃ z : Int32, z = x26_3 + 1 := ⟨_, rfl⟩
              have tv14011 : v14011.toInt = x26_3.toInt + 1 := by rw [ev14011]; exact addT rfl (by decide) (by omega)
              refine lv_iinc (v := v14011) (lv' := [(3, .int v14011), (0, .ref h), (1, .int a1), (2, .int a2)]) hx hb dX11_soon_43 hl (k := 3) rfl (by rw [ev14011]; rfl) (by decide) rfl (fun ls hl => ?_)
              refine lv_goto (tgt := 26) hx hb dX11_soon_46 (by decide) ?_
              exact ih26 v14011 x14002 x14003 g14004 g14005 g14006 g14007 g14008 H locs ls (by omega) (by omega) hg14006 hg14007 hP hD hS (lv_sub hl [1, 2, 3, 0] rfl)
            · have zc14010 := nltK rfl rfl c14010
              refine lv_iload_n hx hb dX11_soon_41 rfl (lv_at hl 3 rfl) ?_
              exact retDi (x14002, x14003, g14004, g14005, g14006, g14007, g14008) hx hb hr hlk hP hD hS dX11_soon_42 (⟨hg14006, hg14007, trivial⟩) (Nat.le_of_ble_eq_true rfl) (Nat.le_of_ble_eq_true rfl)
      exact B26 _ 0 (F 17) (F 18) (A 15) (A 16) (A 19) (A 20) (A 21) H locs ls (Nat.lt_succ_self _) (by decide) (fun j => hI.2 19 j) (fun j => hI.2 20 j) hP hD hS (lv_sub hl [1, 2, 3, 0] rfl)
    · have zc10 := eqK rfl (show (0 : Int32).toInt = 0 by decide) c10
      refine lv_bipush (v := (-2)) hx hb dX11_soon_21 (by decide) ?_
      exact retDi ((F 17), (F 18), (A 15), (A 16), (A 19), (A 20), (A 21)) hx hb hr hlk hP hD hS dX11_soon_23 (⟨fun j => hI.2 19 j, fun j => hI.2 20 j, trivial⟩) (Nat.le_of_ble_eq_true rfl) (Nat.le_of_ble_eq_true rfl)

set_option maxRecDepth 100000 in
set_option maxHeartbeats 8000000 in
theorem sX11_wider (l : Launch) (G : va_G) (cs : Nat → ClassId) (h : Nat) (q : Nat → Nat) (F : Nat → Int32) (A : Nat → Nat → Int32) (D : Int64) (B : Nat → Nat → Int64) (hI : IM F A) (a1 : Int32) (ha1 : (0 : Int) ≤ a1.toInt ∧ a1.toInt ≤ 127) : SafeR l yX11_wider cX11_wider 4 (some .int) 1 G (TY cs) [.ref h, .int a1] (mS cs h q F A D B) (fun r : Int32 => (0 : Int) ≤ r.toInt ∧ r.toInt ≤ 127) := by
  refine mkP (Qc := QRi (fun r : Int32 => (0 : Int) ≤ r.toInt ∧ r.toInt ≤ 127)) (by decide) (by simp [lg_sl, Value.category]) ?_
  intro p e s m args below meth c ls hx hb hml hr hlk hown ht hK hP hS hl
  have hl : lv_has ls 4 [(0, .ref h), (1, .int a1)] := hl
  refine lv_iload_n hx hb dX11_wider_0 rfl (lv_at hl 1 rfl) ?_
  refine lv_istore_n (lv' := [(2, .int a1), (0, .ref h), (1, .int a1)]) hx hb dX11_wider_1 rfl hl (by decide) rfl (fun ls hl => ?_)
  refine lv_iconst (v := 0) hx hb dX11_wider_2 (by decide) ?_
  refine lv_istore_n (lv' := [(3, .int 0), (2, .int a1), (0, .ref h), (1, .int a1)]) hx hb dX11_wider_3 rfl hl (by decide) rfl (fun ls hl => ?_)
  have B4 : ∀ (n : Nat) (x4_2 : Int32) (x4_3 : Int32) (H : Heap) (locs : List Loc) (ls : Array Slot), (7 - x4_3.toInt).toNat < n → (0 : Int) ≤ x4_2.toInt ∧ x4_2.toInt ≤ 127 → (0 : Int) ≤ x4_3.toInt ∧ x4_3.toInt ≤ 7 → va_P G vwCl (mS cs h q F A D B) H → va_S (fun q => s.heap.size ≤ q) s.heap H locs → lv_has ls 4 [(0, .ref h), (1, .int a1), (2, .int x4_2), (3, .int x4_3)] → W p l e (rmk 1 0 0) s m args below meth c H locs 0 0 (MQ below (QRi (fun r : Int32 => (0 : Int) ≤ r.toInt ∧ r.toInt ≤ 127) s.heap.size) args s 0 0 (fun q => s.heap.size ≤ q)) (F0 m 4 ls []) := by
    intro n
    induction n with
    | zero => intro x4_2 x4_3 H locs ls hmeas hx4_2 hx4_3 hP hS hl; exact absurd hmeas (Nat.not_lt_zero _)
    | succ n ih4 =>
      intro x4_2 x4_3 H locs ls hmeas hx4_2 hx4_3 hP hS hl
      refine lv_iload_n hx hb dX11_wider_4 rfl (lv_at hl 3 rfl) ?_
      refine lv_aload_n hx hb dX11_wider_5 rfl (lv_at hl 0 rfl) ?_
      refine getF (v := .ref (q 1)) hx hb ht hown hK hP iTX11 0 1 rfl rfl (by decide) fl_RX11_9 rfl dX11_wider_6 ?_
      refine lv_iconst (v := 4) hx hb dX11_wider_9 (by decide) ?_
      refine va_iald hx hb hK.1 hP 1 0 rfl rfl (show ¬ (_ ∨ _) by decide) dX11_wider_10 ?_
      refine W.eq (g2 := F0 m 11 ls [.int (A 1 4), .int x4_3]) rfl ?_
      have zf5001 : (0 : Int) ≤ (A 1 4).toInt ∧ (A 1 4).toInt ≤ 7 := (hI.2 1 4)
      refine lv_icmp_ge (tgt := 42) hx hb dX11_wider_11 (by decide) (fun c5002 => ?_) (fun c5002 => ?_)
      · have zc5002 := leK rfl rfl c5002
        refine lv_iload_n hx hb dX11_wider_42 rfl (lv_at hl 2 rfl) ?_
        exact retRi hx hb hr hlk hS dX11_wider_43 (show (0 : Int) ≤ x4_2.toInt ∧ x4_2.toInt ≤ 127 by omega)
      · have zc5002 := nleK rfl rfl c5002
        refine lv_iload_n hx hb dX11_wider_14 rfl (lv_at hl 2 rfl) ?_
        refine lv_iload_n hx hb dX11_wider_15 rfl (lv_at hl 1 rfl) ?_
        refine lv_iload_n hx hb dX11_wider_16 rfl (lv_at hl 3 rfl) ?_
        refine behR (runSP (As := [.int a1, .int x4_3]) (rest := [.int x4_2]) ⟨hx, hb, hml, hown, ht⟩ (sX11_bit l G cs a1 x4_3 ) okS_RX11_258 ⟨by decide, by decide⟩ hK hP [] rfl hl.1 rfl (Nat.le_of_ble_eq_true rfl) dX11_wider_17 ⟨by decide, by decide⟩) hP hS (fun _ h => h) (fun r5003 H locs hr5003 hP hS => ?_)
        have hr5003 : r5003 = bitE a1 x4_3 ∧ (0 : Int) ≤ r5003.toInt ∧ r5003.toInt ≤ 1 := hr5003
        refine lv_iconst (v := 1) hx hb dX11_wider_20 (by decide) ?_
        have B34 : ∀ (s34_0 : Int32) (s34_1 : Int32) (H : Heap) (locs : List Loc) (ls : Array Slot), (0 : Int) ≤ s34_0.toInt ∧ s34_0.toInt ≤ 127 → (0 : Int) ≤ s34_1.toInt ∧ s34_1.toInt ≤ 127 → va_P G vwCl (mS cs h q F A D B) H → va_S (fun q => s.heap.size ≤ q) s.heap H locs → lv_has ls 4 [(0, .ref h), (1, .int a1), (3, .int x4_3)] → W p l e (rmk 1 0 0) s m args below meth c H locs 0 0 (MQ below (QRi (fun r : Int32 => (0 : Int) ≤ r.toInt ∧ r.toInt ≤ 127) s.heap.size) args s 0 0 (fun q => s.heap.size ≤ q)) (F0 m 34 ls [.int s34_0, .int s34_1]) := by
          intro s34_0 s34_1 H locs ls hs34_0 hs34_1 hP hS hl
          refine lv_ior hx hb dX11_wider_34 ?_
          refine lv_topi (fun v23001 ev23001 => ?_)
          have tv23001 : 0 ≤ v23001.toInt ∧ v23001.toInt ≤ 127 := by rw [ev23001]; exact orA 7 rfl rfl (by omega) (by omega) (by decide)
          refine lv_istore_n (lv' := [(2, .int v23001), (0, .ref h), (1, .int a1), (3, .int x4_3)]) hx hb dX11_wider_35 rfl hl (by decide) rfl (fun ls hl => ?_)
          obtain ⟨v23002, ev23002⟩ : ∃ z : Int32, z = x4_3 + 1 := ⟨_, rfl⟩
          have tv23002 : v23002.toInt = x4_3.toInt + 1 := by rw [ev23002]; exact addT rfl (by decide) (by omega)
          refine lv_iinc (v := v23002) (lv' := [(3, .int v23002), (2, .int v23001), (0, .ref h), (1, .int a1)]) hx hb dX11_wider_36 hl (k := 3) rfl (by rw [ev23002]; rfl) (by decide) rfl (fun ls hl => ?_)
          refine lv_goto (tgt := 4) hx hb dX11_wider_39 (by decide) ?_
          exact ih4 v23001 v23002 H locs ls (by omega) (by omega) (by omega) hP hS (lv_sub hl [2, 3, 1, 0] rfl)
        refine lv_icmp_ne (tgt := 33) hx hb dX11_wider_21 (by decide) (fun c5004 => ?_) (fun c5004 => ?_)
        · have zc5004 := neK rfl (show (1 : Int32).toInt = 1 by decide) c5004
          refine lv_iconst (v := 0) hx hb dX11_wider_33 (by decide) ?_
          exact B34 0 x4_2 H locs ls (by decide) (by omega) hP hS (lv_sub hl [0, 1, 3] rfl)
        · have zc5004 := eqK rfl (show (1 : Int32).toInt = 1 by decide) c5004
          refine lv_aload_n hx hb dX11_wider_24 rfl (lv_at hl 0 rfl) ?_
          refine lv_iload_n hx hb dX11_wider_25 rfl (lv_at hl 3 rfl) ?_
          refine lv_iconst (v := 3) hx hb dX11_wider_26 (by decide) ?_
          refine behR (runVP (As := [.int x4_3, .int 3]) (rest := [.int x4_2]) ⟨hx, hb, hml, hown, ht⟩ (sX11_of l G cs h q F A D B hI x4_3 3 (by omega) (by decide)) okV_RX11_227 ⟨by decide, by decide⟩ hK hP [0, 1, 2, 3, 4, 5, 6, 7, 8, 9, 10, 11, 12, 13, 14, 15, 16, 17, 18, 19] rfl 0 rfl rfl hl.1 rfl (Nat.le_of_ble_eq_true rfl) dX11_wider_27 ⟨by decide, by decide⟩) hP hS (fun _ h => h) (fun r5005 H locs hr5005 hP hS => ?_)
          have kk5006 : (3 : Int32).toInt = 3 := by decide
          have hr5005 : r5005 = (A 1) (8 + 4 * x4_3.toNatClampNeg + (3 : Int32).toNatClampNeg) ∧ (0 : Int) ≤ r5005.toInt ∧ r5005.toInt ≤ 999 ∧ ((3 : Int32).toInt = 3 → r5005.toInt ≤ 127) ∧ ((3 : Int32).toInt = 2 → r5005.toInt ≤ 99) := hr5005
          refine lv_goto (tgt := 34) hx hb dX11_wider_30 (by decide) ?_
          exact B34 r5005 x4_2 H locs ls (by omega) (by omega) hP hS (lv_sub hl [0, 1, 3] rfl)
  exact B4 _ a1 0 s.heap [] ls (Nat.lt_succ_self _) (by omega) (by decide) hP hS (lv_sub hl [2, 3, 1, 0] rfl)

