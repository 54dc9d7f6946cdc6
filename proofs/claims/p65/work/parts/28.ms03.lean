set_option maxRecDepth 100000 in
set_option maxHeartbeats 8000000 in
theorem sX11_allSits (l : Launch) (G : va_G) (cs : Nat → ClassId) (h : Nat) (q : Nat → Nat) (F : Nat → Int32) (A : Nat → Nat → Int32) (D : Int64) (B : Nat → Nat → Int64) (hI : IM F A) : SafeR l yX11_allSits cX11_allSits 3 (some .int) 1 G (TY cs) [.ref h] (mS cs h q F A D B) (fun r : Int32 => r.toInt = PS (A 1) ((A 1) 4).toInt.toNat ∧ 0 ≤ r.toInt ∧ r.toInt ≤ 693) := by
  refine mkP (Qc := QRi (fun r : Int32 => r.toInt = PS (A 1) ((A 1) 4).toInt.toNat ∧ 0 ≤ r.toInt ∧ r.toInt ≤ 693)) (by decide) (by simp [lg_sl, Value.category]) ?_
  intro p e s m args below meth c ls hx hb hml hr hlk hown ht hK hP hS hl
  have hl : lv_has ls 3 [(0, .ref h)] := hl
  refine lv_iconst (v := 0) hx hb dX11_allSits_0 (by decide) ?_
  refine lv_istore_n (lv' := [(1, .int 0), (0, .ref h)]) hx hb dX11_allSits_1 rfl hl (by decide) rfl (fun ls hl => ?_)
  refine lv_iconst (v := 0) hx hb dX11_allSits_2 (by decide) ?_
  refine lv_istore_n (lv' := [(2, .int 0), (1, .int 0), (0, .ref h)]) hx hb dX11_allSits_3 rfl hl (by decide) rfl (fun ls hl => ?_)
  have B4 : ∀ (n : Nat) (x4_1 : Int32) (x4_2 : Int32) (H : Heap) (locs : List Loc) (ls : Array Slot), (7 - x4_2.toInt).toNat < n → (0 : Int) ≤ x4_1.toInt ∧ x4_1.toInt ≤ 693 → (0 : Int) ≤ x4_2.toInt ∧ x4_2.toInt ≤ 7 → (x4_1.toInt = PS (A 1) x4_2.toInt.toNat ∧ 0 ≤ x4_1.toInt ∧ x4_1.toInt ≤ 99 * x4_2.toInt ∧ x4_2.toInt ≤ (A 1 4).toInt) → va_P G vwCl (mS cs h q F A D B) H → va_S (fun q => s.heap.size ≤ q) s.heap H locs → lv_has ls 3 [(0, .ref h), (1, .int x4_1), (2, .int x4_2)] → W p l e (rmk 1 0 0) s m args below meth c H locs 0 0 (MQ below (QRi (fun r : Int32 => r.toInt = PS (A 1) ((A 1) 4).toInt.toNat ∧ 0 ≤ r.toInt ∧ r.toInt ≤ 693) s.heap.size) args s 0 0 (fun q => s.heap.size ≤ q)) (F0 m 4 ls []) := by
    intro n
    induction n with
    | zero => intro x4_1 x4_2 H locs ls hmeas hx4_1 hx4_2 hps hP hS hl; exact absurd hmeas (Nat.not_lt_zero _)
    | succ n ih4 =>
      intro x4_1 x4_2 H locs ls hmeas hx4_1 hx4_2 hps hP hS hl
      refine lv_iload_n hx hb dX11_allSits_4 rfl (lv_at hl 2 rfl) ?_
      refine lv_aload_n hx hb dX11_allSits_5 rfl (lv_at hl 0 rfl) ?_
      refine getF (v := .ref (q 1)) hx hb ht hown hK hP iTX11 0 1 rfl rfl (by decide) fl_RX11_9 rfl dX11_allSits_6 ?_
      refine lv_iconst (v := 4) hx hb dX11_allSits_9 (by decide) ?_
      refine va_iald hx hb hK.1 hP 1 0 rfl rfl (show ¬ (_ ∨ _) by decide) dX11_allSits_10 ?_
      refine W.eq (g2 := F0 m 11 ls [.int (A 1 4), .int x4_2]) rfl ?_
      have zf5001 : (0 : Int) ≤ (A 1 4).toInt ∧ (A 1 4).toInt ≤ 7 := (hI.2 1 4)
      refine lv_icmp_ge (tgt := 29) hx hb dX11_allSits_11 (by decide) (fun c5002 => ?_) (fun c5002 => ?_)
      · have zc5002 := leK rfl rfl c5002
        refine lv_iload_n hx hb dX11_allSits_29 rfl (lv_at hl 1 rfl) ?_
        exact retRi hx hb hr hlk hS dX11_allSits_30 (⟨(hps.1.trans (congrArg (PS (A 1)) (by have q9 : (0 : Int) ≤ (A 1 4).toInt ∧ (A 1 4).toInt ≤ 7 := hI.2 1 4; omega))), hps.2.1, by have q9 : (0 : Int) ≤ (A 1 4).toInt ∧ (A 1 4).toInt ≤ 7 := hI.2 1 4; omega⟩)
      · have zc5002 := nleK rfl rfl c5002
        refine lv_iload_n hx hb dX11_allSits_14 rfl (lv_at hl 1 rfl) ?_
        refine lv_aload_n hx hb dX11_allSits_15 rfl (lv_at hl 0 rfl) ?_
        refine lv_iload_n hx hb dX11_allSits_16 rfl (lv_at hl 2 rfl) ?_
        refine lv_iconst (v := 2) hx hb dX11_allSits_17 (by decide) ?_
        refine behR (runVP (As := [.int x4_2, .int 2]) (rest := [.int x4_1]) ⟨hx, hb, hml, hown, ht⟩ (sX11_of l G cs h q F A D B hI x4_2 2 (by omega) (by decide)) okV_RX11_227 ⟨by decide, by decide⟩ hK hP [0, 1, 2, 3, 4, 5, 6, 7, 8, 9, 10, 11, 12, 13, 14, 15, 16, 17, 18, 19] rfl 0 rfl rfl hl.1 rfl (Nat.le_of_ble_eq_true rfl) dX11_allSits_18 ⟨by decide, by decide⟩) hP hS (fun _ h => h) (fun r5003 H locs hr5003 hP hS => ?_)
        have kk5004 : (2 : Int32).toInt = 2 := by decide
        have hr5003 : r5003 = (A 1) (8 + 4 * x4_2.toNatClampNeg + (2 : Int32).toNatClampNeg) ∧ (0 : Int) ≤ r5003.toInt ∧ r5003.toInt ≤ 999 ∧ ((2 : Int32).toInt = 3 → r5003.toInt ≤ 127) ∧ ((2 : Int32).toInt = 2 → r5003.toInt ≤ 99) := hr5003
        refine lv_iadd hx hb dX11_allSits_21 ?_
        refine lv_topi (fun v5005 ev5005 => ?_)
        have tv5005 : v5005.toInt = x4_1.toInt + r5003.toInt := by rw [ev5005]; exact addT rfl rfl (by omega)
        refine lv_istore_n (lv' := [(1, .int v5005), (0, .ref h), (2, .int x4_2)]) hx hb dX11_allSits_22 rfl hl (by decide) rfl (fun ls hl => ?_)
        obtain ⟨v5006, ev5006⟩ : ∃ z : Int32, z = x4_2 + 1 := ⟨_, rfl⟩
        have tv5006 : v5006.toInt = x4_2.toInt + 1 := by rw [ev5006]; exact addT rfl (by decide) (by omega)
        refine lv_iinc (v := v5006) (lv' := [(2, .int v5006), (1, .int v5005), (0, .ref h)]) hx hb dX11_allSits_23 hl (k := 2) rfl (by rw [ev5006]; rfl) (by decide) rfl (fun ls hl => ?_)
        refine lv_goto (tgt := 4) hx hb dX11_allSits_26 (by decide) ?_
        exact ih4 v5005 v5006 H locs ls (by omega) (by omega) (by omega) (by have q1 := PSs (g := (A 1)) (x := x4_2.toInt) (n := x4_2.toNatClampNeg) (by omega) (clK rfl (by omega)) tv5006; have q2 : r5003.toInt = (A 1 (10 + 4 * x4_2.toNatClampNeg)).toInt := congrArg Int32.toInt (hr5003.1.trans (congrArg (A 1) (by have q0 : (2 : Int32).toNatClampNeg = 2 := (by decide); omega))); omega) hP hS (lv_sub hl [2, 1, 0] rfl)
  exact B4 _ 0 0 s.heap [] ls (Nat.lt_succ_self _) (by decide) (by decide) ⟨by rfl, by decide, by decide, (hI.2 1 4).1⟩ hP hS (lv_sub hl [2, 1, 0] rfl)

set_option maxRecDepth 100000 in
set_option maxHeartbeats 8000000 in
theorem sX11_beAtFirst (l : Launch) (G : va_G) (cs : Nat → ClassId) (h : Nat) (q : Nat → Nat) (F : Nat → Int32) (A : Nat → Nat → Int32) (D : Int64) (B : Nat → Nat → Int64) (hI : IM F A) : ImpW l yX11_beAtFirst cX11_beAtFirst 3 2 0 0 G (TY cs) [.ref h] (mS cs h q F A D B) (fun u : Int32 × Int32 × (Nat → Int32) => True) (fun u : Int32 × Int32 × (Nat → Int32) => (mS cs h q (upd (upd F 17 u.1) 18 u.2.1) (vA A 15 u.2.2) D B)) := by
  refine mkD (Qc := (QDw G (fun u : Int32 × Int32 × (Nat → Int32) => True) (fun u : Int32 × Int32 × (Nat → Int32) => (mS cs h q (upd (upd F 17 u.1) 18 u.2.1) (vA A 15 u.2.2) D B)))) (by decide) (by simp [lg_sl, Value.category]) ?_
  intro p e s m args below meth c ls A0 hx hb hml hr hlk hown hmn ht hK hP hD hS hA hl
  have hl : lv_has ls 3 [(0, .ref h)] := hl
  refine lv_aload_n hx hb dX11_beAtFirst_0 rfl (lv_at hl 0 rfl) ?_
  refine behR (runVP (As := []) (rest := []) ⟨hx, hb, hml, hown, ht⟩ (sX11_allSits l G cs h q F A D B hI  ) okV_RX11_242 ⟨by decide, by decide⟩ hK hP [0, 1, 2, 3, 4, 5, 6, 7, 8, 9, 10, 11, 12, 13, 14, 15, 16, 17, 18, 19] rfl 0 rfl rfl hl.1 rfl (Nat.le_of_ble_eq_true rfl) dX11_beAtFirst_1 ⟨by decide, by decide⟩) hP hS hA (fun r1 H locs hr1 hP hS => ?_)
  have hr1 : r1.toInt = PS (A 1) ((A 1) 4).toInt.toNat ∧ 0 ≤ r1.toInt ∧ r1.toInt ≤ 693 := hr1
  refine lv_istore_n (lv' := [(1, .int r1), (0, .ref h)]) hx hb dX11_beAtFirst_4 rfl hl (by decide) rfl (fun ls hl => ?_)
  refine lv_aload_n hx hb dX11_beAtFirst_5 rfl (lv_at hl 1 rfl) ?_
  refine lv_ldc hx hb hown (ht _ ki_RX11_245) dX11_beAtFirst_6 ?_
  refine putD hx hb ht hown hK hP hD hS iTX11 tyX11 tyX11_ok nmX11 0 17 rfl rfl (by decide) fl_RX11_246 rfl rfl rfl (Nat.le_of_ble_eq_true rfl) dX11_beAtFirst_8 (fun H locs hP hD hS => ?_)
  have hP : va_P G vwCl (mS cs h q (upd F 17 1000000) A D B) H := hP
  have hD : va_D A0 (mS cs h q (upd F 17 1000000) A D B) := hD
  refine lv_aload_n hx hb dX11_beAtFirst_11 rfl (lv_at hl 1 rfl) ?_
  refine lv_iconst (v := 0) hx hb dX11_beAtFirst_12 (by decide) ?_
  refine putD hx hb ht hown hK hP hD hS iTX11 tyX11 tyX11_ok nmX11 0 18 rfl rfl (by decide) fl_RX11_249 rfl rfl rfl (Nat.le_of_ble_eq_true rfl) dX11_beAtFirst_13 (fun H locs hP hD hS => ?_)
  have hP : va_P G vwCl (mS cs h q (upd (upd F 17 1000000) 18 0) A D B) H := hP
  have hD : va_D A0 (mS cs h q (upd (upd F 17 1000000) 18 0) A D B) := hD
  refine lv_iconst (v := 0) hx hb dX11_beAtFirst_16 (by decide) ?_
  refine lv_istore_n (lv' := [(2, .int 0), (1, .int r1), (0, .ref h)]) hx hb dX11_beAtFirst_17 rfl hl (by decide) rfl (fun ls hl => ?_)
  have B18 : ∀ (n : Nat) (x18_2 : Int32) (f17_18 : Int32) (a15_18 : (Nat → Int32)) (H : Heap) (locs : List Loc) (ls : Array Slot), (7 - x18_2.toInt).toNat < n → (0 : Int) ≤ x18_2.toInt ∧ x18_2.toInt ≤ 7 → va_P G vwCl (mS cs h q (upd (upd F 17 f17_18) 18 0) (vA A 15 a15_18) D B) H → va_D A0 (mS cs h q (upd (upd F 17 f17_18) 18 0) (vA A 15 a15_18) D B) → va_S A0 s.heap H locs → lv_has ls 3 [(0, .ref h), (1, .int r1), (2, .int x18_2)] → W p l e (rmk 2 0 0) s m args below meth c H locs 0 0 (MQ below ((QDw G (fun u : Int32 × Int32 × (Nat → Int32) => True) (fun u : Int32 × Int32 × (Nat → Int32) => (mS cs h q (upd (upd F 17 u.1) 18 u.2.1) (vA A 15 u.2.2) D B))) A0) args s 0 0 A0) (F0 m 18 ls []) := by
    intro n
    induction n with
    | zero => intro x18_2 f17_18 a15_18 H locs ls hmeas hx18_2 hP hD hS hl; exact absurd hmeas (Nat.not_lt_zero _)
    | succ n ih18 =>
      intro x18_2 f17_18 a15_18 H locs ls hmeas hx18_2 hP hD hS hl
      refine lv_iload_n hx hb dX11_beAtFirst_18 rfl (lv_at hl 2 rfl) ?_
      refine lv_bipush (v := 7) hx hb dX11_beAtFirst_19 (by decide) ?_
      refine lv_icmp_ge (tgt := 88) hx hb dX11_beAtFirst_21 (by decide) (fun c12001 => ?_) (fun c12001 => ?_)
      · have zc12001 := leK (show (7 : Int32).toInt = 7 by decide) rfl c12001
        exact retDw (f17_18, 0, a15_18) hx hb hr hlk hP hD hS dX11_beAtFirst_88 (trivial) (Nat.le_of_ble_eq_true rfl) (Nat.le_of_ble_eq_true rfl)
      · have zc12001 := nleK (show (7 : Int32).toInt = 7 by decide) rfl c12001
        refine lv_aload_n hx hb dX11_beAtFirst_24 rfl (lv_at hl 0 rfl) ?_
        refine getF (v := .ref (q 15)) hx hb ht hown hK hP iTX11 0 15 rfl rfl (by decide) fl_RX11_34 rfl dX11_beAtFirst_25 ?_
        refine lv_iload_n hx hb dX11_beAtFirst_28 rfl (lv_at hl 2 rfl) ?_
        refine lv_iload_n hx hb dX11_beAtFirst_29 rfl (lv_at hl 2 rfl) ?_
        refine lv_aload_n hx hb dX11_beAtFirst_30 rfl (lv_at hl 0 rfl) ?_
        refine getF (v := .ref (q 1)) hx hb ht hown hK hP iTX11 0 1 rfl rfl (by decide) fl_RX11_9 rfl dX11_beAtFirst_31 ?_
        refine lv_iconst (v := 4) hx hb dX11_beAtFirst_34 (by decide) ?_
        refine va_iald hx hb hK.1 hP 1 0 rfl rfl (show ¬ (_ ∨ _) by decide) dX11_beAtFirst_35 ?_
        refine W.eq (g2 := F0 m 36 ls [.int (A 1 4), .int x18_2, .int x18_2, .ref (q 15)]) rfl ?_
        have zf12002 : (0 : Int) ≤ (A 1 4).toInt ∧ (A 1 4).toInt ≤ 7 := (hI.2 1 4)
        have B66 : ∀ (s66_0 : Int32) (s66_1 : Int32) (H : Heap) (locs : List Loc) (ls : Array Slot), (0 : Int) ≤ s66_1.toInt ∧ s66_1.toInt ≤ 6 → va_P G vwCl (mS cs h q (upd (upd F 17 f17_18) 18 0) (vA A 15 a15_18) D B) H → va_D A0 (mS cs h q (upd (upd F 17 f17_18) 18 0) (vA A 15 a15_18) D B) → va_S A0 s.heap H locs → lv_has ls 3 [(0, .ref h), (1, .int r1), (2, .int x18_2)] → W p l e (rmk 2 0 0) s m args below meth c H locs 0 0 (MQ below ((QDw G (fun u : Int32 × Int32 × (Nat → Int32) => True) (fun u : Int32 × Int32 × (Nat → Int32) => (mS cs h q (upd (upd F 17 u.1) 18 u.2.1) (vA A 15 u.2.2) D B))) A0) args s 0 0 A0) (F0 m 66 ls [.int s66_0, .int s66_1, .ref (q 15)]) := by
          intro s66_0 s66_1 H locs ls hs66_1 hP hD hS hl
          refine va_iast hx hb hK.1 hP hD hS 7 0 rfl rfl (inK rfl (by omega) (by decide)) dX11_beAtFirst_66 (fun H locs hP hD hS => ?_)
          obtain ⟨g41001, hP, hD⟩ : ∃ g41001 : Nat → Int32, va_P G vwCl (mS cs h q (upd (upd F 17 f17_18) 18 0) (vA A 15 g41001) D B) H ∧ va_D A0 (mS cs h q (upd (upd F 17 f17_18) 18 0) (vA A 15 g41001) D B) := ⟨upd a15_18 s66_1.toNatClampNeg s66_0, hP, hD⟩
          refine lv_aload_n hx hb dX11_beAtFirst_67 rfl (lv_at hl 0 rfl) ?_
          refine lv_dup hx hb dX11_beAtFirst_68 rfl ?_
          refine getF (v := .int f17_18) hx hb ht hown hK hP iTX11 0 17 rfl rfl (by decide) fl_RX11_246 rfl dX11_beAtFirst_69 ?_
          refine lv_aload_n hx hb dX11_beAtFirst_72 rfl (lv_at hl 0 rfl) ?_
          refine getF (v := .ref (q 15)) hx hb ht hown hK hP iTX11 0 15 rfl rfl (by decide) fl_RX11_34 rfl dX11_beAtFirst_73 ?_
          refine lv_iload_n hx hb dX11_beAtFirst_76 rfl (lv_at hl 2 rfl) ?_
          refine va_iald hx hb hK.1 hP 7 0 rfl rfl (inK rfl (by omega) (by decide)) dX11_beAtFirst_77 ?_
          refine lv_topi (fun v41002 ev41002 => ?_)
          refine lv_isub hx hb dX11_beAtFirst_78 ?_
          refine lv_topi (fun v41003 ev41003 => ?_)
          refine putD hx hb ht hown hK hP hD hS iTX11 tyX11 tyX11_ok nmX11 0 17 rfl rfl (by decide) fl_RX11_246 rfl rfl rfl (Nat.le_of_ble_eq_true rfl) dX11_beAtFirst_79 (fun H locs hP hD hS => ?_)
          have hP : va_P G vwCl (mS cs h q (upd (upd F 17 v41003) 18 0) (vA A 15 g41001) D B) H := hP
          have hD : va_D A0 (mS cs h q (upd (upd F 17 v41003) 18 0) (vA A 15 g41001) D B) := hD
          obtain ⟨v41004, ev41004⟩ : ∃ z : Int32, z = x18_2 + 1 := ⟨_, rfl⟩
          have tv41004 : v41004.toInt = x18_2.toInt + 1 := by rw [ev41004]; exact addT rfl (by decide) (by omega)
          refine lv_iinc (v := v41004) (lv' := [(2, .int v41004), (0, .ref h), (1, .int r1)]) hx hb dX11_beAtFirst_82 hl (k := 2) rfl (by rw [ev41004]; rfl) (by decide) rfl (fun ls hl => ?_)
          refine lv_goto (tgt := 18) hx hb dX11_beAtFirst_85 (by decide) ?_
          exact ih18 v41004 v41003 g41001 H locs ls (by omega) (by omega) hP hD hS (lv_sub hl [1, 2, 0] rfl)
        have B65 : ∀ (s65_0 : Int32) (H : Heap) (locs : List Loc) (ls : Array Slot), (0 : Int) ≤ s65_0.toInt ∧ s65_0.toInt ≤ 6 → va_P G vwCl (mS cs h q (upd (upd F 17 f17_18) 18 0) (vA A 15 a15_18) D B) H → va_D A0 (mS cs h q (upd (upd F 17 f17_18) 18 0) (vA A 15 a15_18) D B) → va_S A0 s.heap H locs → lv_has ls 3 [(0, .ref h), (1, .int r1), (2, .int x18_2)] → W p l e (rmk 2 0 0) s m args below meth c H locs 0 0 (MQ below ((QDw G (fun u : Int32 × Int32 × (Nat → Int32) => True) (fun u : Int32 × Int32 × (Nat → Int32) => (mS cs h q (upd (upd F 17 u.1) 18 u.2.1) (vA A 15 u.2.2) D B))) A0) args s 0 0 A0) (F0 m 65 ls [.int s65_0, .ref (q 15)]) := by
          intro s65_0 H locs ls hs65_0 hP hD hS hl
          refine lv_iconst (v := 0) hx hb dX11_beAtFirst_65 (by decide) ?_
          exact B66 0 s65_0 H locs ls (by omega) hP hD hS (lv_sub hl [0, 1, 2] rfl)
        refine lv_icmp_ge (tgt := 65) hx hb dX11_beAtFirst_36 (by decide) (fun c12003 => ?_) (fun c12003 => ?_)
        · have zc12003 := leK rfl rfl c12003
          exact B65 x18_2 H locs ls (by omega) hP hD hS (lv_sub hl [0, 1, 2] rfl)
        · have zc12003 := nleK rfl rfl c12003
          refine lv_iload_n hx hb dX11_beAtFirst_39 rfl (lv_at hl 1 rfl) ?_
          refine lv_if_le (tgt := 65) hx hb dX11_beAtFirst_40 (by decide) (fun c12004 => ?_) (fun c12004 => ?_)
          · have zc12004 := leK rfl (show (0 : Int32).toInt = 0 by decide) c12004
            exact B65 x18_2 H locs ls (by omega) hP hD hS (lv_sub hl [0, 1, 2] rfl)
          · have zc12004 := nleK rfl (show (0 : Int32).toInt = 0 by decide) c12004
            refine lv_aload_n hx hb dX11_beAtFirst_43 rfl (lv_at hl 0 rfl) ?_
            refine getF (v := .ref (q 1)) hx hb ht hown hK hP iTX11 0 1 rfl rfl (by decide) fl_RX11_9 rfl dX11_beAtFirst_44 ?_
            refine lv_iconst (v := 1) hx hb dX11_beAtFirst_47 (by decide) ?_
            refine va_iald hx hb hK.1 hP 1 0 rfl rfl (show ¬ (_ ∨ _) by decide) dX11_beAtFirst_48 ?_
            refine W.eq (g2 := F0 m 49 ls [.int (A 1 1), .int x18_2, .ref (q 15)]) rfl ?_
            refine lv_sipush (v := 10000) hx hb dX11_beAtFirst_49 (by decide) ?_
            refine lv_imul hx hb dX11_beAtFirst_52 ?_
            refine lv_topi (fun v12005 ev12005 => ?_)
            refine lv_aload_n hx hb dX11_beAtFirst_53 rfl (lv_at hl 0 rfl) ?_
            refine lv_iload_n hx hb dX11_beAtFirst_54 rfl (lv_at hl 2 rfl) ?_
            refine lv_iconst (v := 2) hx hb dX11_beAtFirst_55 (by decide) ?_
            refine behR (runVP (As := [.int x18_2, .int 2]) (rest := [.int v12005, .int x18_2, .ref (q 15)]) ⟨hx, hb, hml, hown, ht⟩ (sX11_of l G cs h q (upd (upd F 17 f17_18) 18 0) (vA A 15 a15_18) D B (IM_arr (k := 15) (IM_put (k := 18) (IM_put (k := 17) hI (i32b _)) (i32b _)) (fun _ => i32b _)) x18_2 2 (by omega) (by decide)) okV_RX11_227 ⟨by decide, by decide⟩ hK hP [0, 1, 2, 3, 4, 5, 6, 7, 8, 9, 10, 11, 12, 13, 14, 15, 16, 17, 18, 19] rfl 0 rfl rfl hl.1 rfl (Nat.le_of_ble_eq_true rfl) dX11_beAtFirst_56 ⟨by decide, by decide⟩) hP hS hA (fun r12006 H locs hr12006 hP hS => ?_)
            have kk12007 : (2 : Int32).toInt = 2 := by decide
            have hr12006 : r12006 = (A 1) (8 + 4 * x18_2.toNatClampNeg + (2 : Int32).toNatClampNeg) ∧ (0 : Int) ≤ r12006.toInt ∧ r12006.toInt ≤ 999 ∧ ((2 : Int32).toInt = 3 → r12006.toInt ≤ 127) ∧ ((2 : Int32).toInt = 2 → r12006.toInt ≤ 99) := hr12006
            refine lv_imul hx hb dX11_beAtFirst_59 ?_
            refine lv_topi (fun v12008 ev12008 => ?_)
            refine lv_iload_n hx hb dX11_beAtFirst_60 rfl (lv_at hl 1 rfl) ?_
            refine lv_idiv hx hb dX11_beAtFirst_61 (n0K rfl (by omega)) ?_
            refine lv_topi (fun v12009 ev12009 => ?_)
            refine lv_goto (tgt := 66) hx hb dX11_beAtFirst_62 (by decide) ?_
            exact B66 v12009 x18_2 H locs ls (by omega) hP hD hS (lv_sub hl [0, 1, 2] rfl)
  exact B18 _ 0 1000000 (A 15) H locs ls (Nat.lt_succ_self _) (by decide) hP hD hS (lv_sub hl [2, 1, 0] rfl)

set_option maxRecDepth 100000 in
set_option maxHeartbeats 8000000 in
theorem sX11_wouldFind (l : Launch) (G : va_G) (cs : Nat → ClassId) (h : Nat) (q : Nat → Nat) (F : Nat → Int32) (A : Nat → Nat → Int32) (D : Int64) (B : Nat → Nat → Int64) (hI : IM F A) (a1 : Int32) (a2 : Int32) (ha1 : (0 : Int) ≤ a1.toInt ∧ a1.toInt ≤ 6) (ha2 : (0 : Int) ≤ a2.toInt ∧ a2.toInt ≤ 9) : SafeR l yX11_wouldFind cX11_wouldFind 3 (some .int) 2 G (TY cs) [.ref h, .int a1, .int a2] (mS cs h q F A D B) (fun r : Int32 => True) := by
  refine mkP (Qc := QRi (fun r : Int32 => True)) (by decide) (by simp [lg_sl, Value.category]) ?_
  intro p e s m args below meth c ls hx hb hml hr hlk hown ht hK hP hS hl
  have hl : lv_has ls 3 [(0, .ref h), (1, .int a1), (2, .int a2)] := hl
  refine lv_aload_n hx hb dX11_wouldFind_0 rfl (lv_at hl 0 rfl) ?_
  refine getF (v := .ref (q 15)) hx hb ht hown hK hP iTX11 0 15 rfl rfl (by decide) fl_RX11_34 rfl dX11_wouldFind_1 ?_
  refine lv_iload_n hx hb dX11_wouldFind_4 rfl (lv_at hl 1 rfl) ?_
  refine va_iald hx hb hK.1 hP 7 0 rfl rfl (inK rfl (by omega) (by decide)) dX11_wouldFind_5 ?_
  refine lv_topi (fun v1 ev1 => ?_)
  refine lv_aload_n hx hb dX11_wouldFind_6 rfl (lv_at hl 0 rfl) ?_
  refine lv_iload_n hx hb dX11_wouldFind_7 rfl (lv_at hl 1 rfl) ?_
  refine lv_iload_n hx hb dX11_wouldFind_8 rfl (lv_at hl 2 rfl) ?_
  refine behR (runVP (As := [.int a1, .int a2]) (rest := [.int v1]) ⟨hx, hb, hml, hown, ht⟩ (sX11_hearsBy l G cs h q F A D B hI a1 a2 (by omega) (by omega)) okV_RX11_239 ⟨by decide, by decide⟩ hK hP [0, 1, 2, 3, 4, 5, 6, 7, 8, 9, 10, 11, 12, 13, 14, 15, 16, 17, 18, 19] rfl 0 rfl rfl hl.1 rfl (Nat.le_of_ble_eq_true rfl) dX11_wouldFind_9 ⟨by decide, by decide⟩) hP hS (fun _ h => h) (fun r2 H locs hr2 hP hS => ?_)
  refine lv_imul hx hb dX11_wouldFind_12 ?_
  refine lv_topi (fun v3 ev3 => ?_)
  refine lv_bipush (v := 100) hx hb dX11_wouldFind_13 (by decide) ?_
  refine lv_idiv hx hb dX11_wouldFind_15 (by decide) ?_
  refine lv_topi (fun v4 ev4 => ?_)
  exact retRi hx hb hr hlk hS dX11_wouldFind_16 (trivial)

set_option maxRecDepth 100000 in
set_option maxHeartbeats 8000000 in
theorem sX11_callIn (l : Launch) (G : va_G) (cs : Nat → ClassId) (h : Nat) (q : Nat → Nat) (F : Nat → Int32) (A : Nat → Nat → Int32) (D : Int64) (B : Nat → Nat → Int64) (hI : IM F A) (a1 : Int32) (a2 : Int32) (ha1 : (-1 : Int) ≤ a1.toInt ∧ a1.toInt ≤ 6) (ha2 : (0 : Int) ≤ a2.toInt ∧ a2.toInt ≤ 9) : ImpI l yX11_callIn cX11_callIn 4 (some .int) 3 0 0 G (TY cs) [.ref h, .int a1, .int a2] (mS cs h q F A D B) (fun (r : Int32) (u : Int32 × (Nat → Int32)) => True) (fun u : Int32 × (Nat → Int32) => (mS cs h q (upd F 18 u.1) (vA A 15 u.2) D B)) := by
  refine mkD (Qc := (QDi G (fun (r : Int32) (u : Int32 × (Nat → Int32)) => True) (fun u : Int32 × (Nat → Int32) => (mS cs h q (upd F 18 u.1) (vA A 15 u.2) D B)))) (by decide) (by simp [lg_sl, Value.category]) ?_
  intro p e s m args below meth c ls A0 hx hb hml hr hlk hown hmn ht hK hP hD hS hA hl
  have hl : lv_has ls 4 [(0, .ref h), (1, .int a1), (2, .int a2)] := hl
  refine lv_iload_n hx hb dX11_callIn_0 rfl (lv_at hl 1 rfl) ?_
  refine lv_iconst (v := (-1)) hx hb dX11_callIn_1 (by decide) ?_
  refine lv_icmp_ne (tgt := 7) hx hb dX11_callIn_2 (by decide) (fun c1 => ?_) (fun c1 => ?_)
  · have zc1 := neK rfl (show (-1 : Int32).toInt = (-1) by decide) c1
    refine lv_aload_n hx hb dX11_callIn_7 rfl (lv_at hl 0 rfl) ?_
    refine lv_iload_n hx hb dX11_callIn_8 rfl (lv_at hl 1 rfl) ?_
    refine lv_iload_n hx hb dX11_callIn_9 rfl (lv_at hl 2 rfl) ?_
    refine behR (runVP (As := [.int a1, .int a2]) (rest := []) ⟨hx, hb, hml, hown, ht⟩ (sX11_wouldFind l G cs h q F A D B hI a1 a2 (by omega) (by omega)) okV_RX11_252 ⟨by decide, by decide⟩ hK hP [0, 1, 2, 3, 4, 5, 6, 7, 8, 9, 10, 11, 12, 13, 14, 15, 16, 17, 18, 19] rfl 0 rfl rfl hl.1 rfl (Nat.le_of_ble_eq_true rfl) dX11_callIn_10 ⟨by decide, by decide⟩) hP hS hA (fun r2 H locs hr2 hP hS => ?_)
    refine lv_istore_n (lv' := [(3, .int r2), (0, .ref h), (1, .int a1), (2, .int a2)]) hx hb dX11_callIn_13 rfl hl (by decide) rfl (fun ls hl => ?_)
    refine lv_aload_n hx hb dX11_callIn_14 rfl (lv_at hl 1 rfl) ?_
    refine getF (v := .ref (q 15)) hx hb ht hown hK hP iTX11 0 15 rfl rfl (by decide) fl_RX11_34 rfl dX11_callIn_15 ?_
    refine lv_iload_n hx hb dX11_callIn_18 rfl (lv_at hl 2 rfl) ?_
    refine lv_dup2_11 hx hb dX11_callIn_19 rfl rfl ?_
    refine va_iald hx hb hK.1 hP 7 0 rfl rfl (inK rfl (by omega) (by decide)) dX11_callIn_20 ?_
    refine lv_topi (fun v3 ev3 => ?_)
    refine lv_iload_n hx hb dX11_callIn_21 rfl (lv_at hl 0 rfl) ?_
    refine lv_isub hx hb dX11_callIn_22 ?_
    refine lv_topi (fun v4 ev4 => ?_)
    refine va_iast hx hb hK.1 hP hD hS 7 0 rfl rfl (inK rfl (by omega) (by decide)) dX11_callIn_23 (fun H locs hP hD hS => ?_)
    obtain ⟨g5, hP, hD⟩ : ∃ g5 : Nat → Int32, va_P G vwCl (mS cs h q F (vA A 15 g5) D B) H ∧ va_D A0 (mS cs h q F (vA A 15 g5) D B) := ⟨upd (A 15) a1.toNatClampNeg v4, hP, hD⟩
    refine lv_aload_n hx hb dX11_callIn_24 rfl (lv_at hl 1 rfl) ?_
    refine lv_dup hx hb dX11_callIn_25 rfl ?_
    refine getF (v := .int (F 18)) hx hb ht hown hK hP iTX11 0 18 rfl rfl (by decide) fl_RX11_249 rfl dX11_callIn_26 ?_
    refine lv_iload_n hx hb dX11_callIn_29 rfl (lv_at hl 0 rfl) ?_
    refine lv_iadd hx hb dX11_callIn_30 ?_
    refine lv_topi (fun v6 ev6 => ?_)
    refine putD hx hb ht hown hK hP hD hS iTX11 tyX11 tyX11_ok nmX11 0 18 rfl rfl (by decide) fl_RX11_249 rfl rfl rfl (Nat.le_of_ble_eq_true rfl) dX11_callIn_31 (fun H locs hP hD hS => ?_)
    have hP : va_P G vwCl (mS cs h q (upd F 18 v6) (vA A 15 g5) D B) H := hP
    have hD : va_D A0 (mS cs h q (upd F 18 v6) (vA A 15 g5) D B) := hD
    refine lv_iload_n hx hb dX11_callIn_34 rfl (lv_at hl 0 rfl) ?_
    exact retDi (v6, g5) hx hb hr hlk hP hD hS dX11_callIn_35 (trivial) (Nat.le_of_ble_eq_true rfl) (Nat.le_of_ble_eq_true rfl)
  · have zc1 := eqK rfl (show (-1 : Int32).toInt = (-1) by decide) c1
    refine lv_iconst (v := 0) hx hb dX11_callIn_5 (by decide) ?_
    exact retDi ((F 18), (A 15)) hx hb hr hlk hP hD hS dX11_callIn_6 (trivial) (Nat.le_of_ble_eq_true rfl) (Nat.le_of_ble_eq_true rfl)

set_option maxRecDepth 100000 in
set_option maxHeartbeats 8000000 in
theorem sX11_goMinute (l : Launch) (G : va_G) (cs : Nat → ClassId) (h : Nat) (q : Nat → Nat) (F : Nat → Int32) (A : Nat → Nat → Int32) (D : Int64) (B : Nat → Nat → Int64) (hI : IM F A) (a1 : Int32) : ImpW l yX11_goMinute cX11_goMinute 6 1 0 0 G (TY cs) [.ref h, .int a1] (mS cs h q F A D B) (fun u : (Nat → Int32) × (Nat → Int32) => True) (fun u : (Nat → Int32) × (Nat → Int32) => (mS cs h q F (vA (vA A 15 u.1) 16 u.2) D B)) := by
  refine mkD (Qc := (QDw G (fun u : (Nat → Int32) × (Nat → Int32) => True) (fun u : (Nat → Int32) × (Nat → Int32) => (mS cs h q F (vA (vA A 15 u.1) 16 u.2) D B)))) (by decide) (by simp [lg_sl, Value.category]) ?_
  intro p e s m args below meth c ls A0 hx hb hml hr hlk hown hmn ht hK hP hD hS hA hl
  have hl : lv_has ls 6 [(0, .ref h), (1, .int a1)] := hl
  refine lv_iconst (v := 0) hx hb dX11_goMinute_0 (by decide) ?_
  refine lv_istore_n (lv' := [(2, .int 0), (0, .ref h), (1, .int a1)]) hx hb dX11_goMinute_1 rfl hl (by decide) rfl (fun ls hl => ?_)
  have B2 : ∀ (n : Nat) (x2_2 : Int32) (a16_2 : (Nat → Int32)) (H : Heap) (locs : List Loc) (ls : Array Slot), (7 - x2_2.toInt).toNat < n → (0 : Int) ≤ x2_2.toInt ∧ x2_2.toInt ≤ 7 → va_P G vwCl (mS cs h q F (vA A 16 a16_2) D B) H → va_D A0 (mS cs h q F (vA A 16 a16_2) D B) → va_S A0 s.heap H locs → lv_has ls 6 [(0, .ref h), (1, .int a1), (2, .int x2_2)] → W p l e (rmk 1 0 0) s m args below meth c H locs 0 0 (MQ below ((QDw G (fun u : (Nat → Int32) × (Nat → Int32) => True) (fun u : (Nat → Int32) × (Nat → Int32) => (mS cs h q F (vA (vA A 15 u.1) 16 u.2) D B))) A0) args s 0 0 A0) (F0 m 2 ls []) := by
    intro n
    induction n with
    | zero => intro x2_2 a16_2 H locs ls hmeas hx2_2 hP hD hS hl; exact absurd hmeas (Nat.not_lt_zero _)
    | succ n ih2 =>
      intro x2_2 a16_2 H locs ls hmeas hx2_2 hP hD hS hl
      refine lv_iload_n hx hb dX11_goMinute_2 rfl (lv_at hl 2 rfl) ?_
      refine lv_bipush (v := 7) hx hb dX11_goMinute_3 (by decide) ?_
      refine lv_icmp_ge (tgt := 21) hx hb dX11_goMinute_5 (by decide) (fun c3001 => ?_) (fun c3001 => ?_)
      · have zc3001 := leK (show (7 : Int32).toInt = 7 by decide) rfl c3001
        refine lv_iconst (v := 0) hx hb dX11_goMinute_21 (by decide) ?_
        refine lv_istore_n (lv' := [(2, .int 0), (0, .ref h), (1, .int a1)]) hx hb dX11_goMinute_22 rfl hl (by decide) rfl (fun ls hl => ?_)
        have B23 : ∀ (n : Nat) (x23_2 : Int32) (a16_23 : (Nat → Int32)) (H : Heap) (locs : List Loc) (ls : Array Slot), (7 - x23_2.toInt).toNat < n → (0 : Int) ≤ x23_2.toInt ∧ x23_2.toInt ≤ 7 → va_P G vwCl (mS cs h q F (vA A 16 a16_23) D B) H → va_D A0 (mS cs h q F (vA A 16 a16_23) D B) → va_S A0 s.heap H locs → lv_has ls 6 [(0, .ref h), (1, .int a1), (2, .int x23_2)] → W p l e (rmk 1 0 0) s m args below meth c H locs 0 0 (MQ below ((QDw G (fun u : (Nat → Int32) × (Nat → Int32) => True) (fun u : (Nat → Int32) × (Nat → Int32) => (mS cs h q F (vA (vA A 15 u.1) 16 u.2) D B))) A0) args s 0 0 A0) (F0 m 23 ls []) := by
          intro n
          induction n with
          | zero => intro x23_2 a16_23 H locs ls hmeas hx23_2 hP hD hS hl; exact absurd hmeas (Nat.not_lt_zero _)
          | succ n ih23 =>
            intro x23_2 a16_23 H locs ls hmeas hx23_2 hP hD hS hl
            refine lv_iload_n hx hb dX11_goMinute_23 rfl (lv_at hl 2 rfl) ?_
            refine lv_aload_n hx hb dX11_goMinute_24 rfl (lv_at hl 0 rfl) ?_
            refine getF (v := .ref (q 1)) hx hb ht hown hK hP iTX11 0 1 rfl rfl (by decide) fl_RX11_9 rfl dX11_goMinute_25 ?_
            refine lv_iconst (v := 4) hx hb dX11_goMinute_28 (by decide) ?_
            refine va_iald hx hb hK.1 hP 1 0 rfl rfl (show ¬ (_ ∨ _) by decide) dX11_goMinute_29 ?_
            refine W.eq (g2 := F0 m 30 ls [.int (A 1 4), .int x23_2]) rfl ?_
            have zf15001 : (0 : Int) ≤ (A 1 4).toInt ∧ (A 1 4).toInt ≤ 7 := (hI.2 1 4)
            refine lv_icmp_ge (tgt := 138) hx hb dX11_goMinute_30 (by decide) (fun c15002 => ?_) (fun c15002 => ?_)
            · have zc15002 := leK rfl rfl c15002
              refine lv_iconst (v := 0) hx hb dX11_goMinute_138 (by decide) ?_
              refine lv_istore_n (lv' := [(2, .int 0), (0, .ref h), (1, .int a1)]) hx hb dX11_goMinute_139 rfl hl (by decide) rfl (fun ls hl => ?_)
              have B140 : ∀ (n : Nat) (x140_2 : Int32) (a15_140 : (Nat → Int32)) (H : Heap) (locs : List Loc) (ls : Array Slot), (7 - x140_2.toInt).toNat < n → (0 : Int) ≤ x140_2.toInt ∧ x140_2.toInt ≤ 7 → va_P G vwCl (mS cs h q F (vA (vA A 15 a15_140) 16 a16_23) D B) H → va_D A0 (mS cs h q F (vA (vA A 15 a15_140) 16 a16_23) D B) → va_S A0 s.heap H locs → lv_has ls 6 [(0, .ref h), (2, .int x140_2)] → W p l e (rmk 1 0 0) s m args below meth c H locs 0 0 (MQ below ((QDw G (fun u : (Nat → Int32) × (Nat → Int32) => True) (fun u : (Nat → Int32) × (Nat → Int32) => (mS cs h q F (vA (vA A 15 u.1) 16 u.2) D B))) A0) args s 0 0 A0) (F0 m 140 ls []) := by
                intro n
                induction n with
                | zero => intro x140_2 a15_140 H locs ls hmeas hx140_2 hP hD hS hl; exact absurd hmeas (Nat.not_lt_zero _)
                | succ n ih140 =>
                  intro x140_2 a15_140 H locs ls hmeas hx140_2 hP hD hS hl
                  refine lv_iload_n hx hb dX11_goMinute_140 rfl (lv_at hl 1 rfl) ?_
                  refine lv_bipush (v := 7) hx hb dX11_goMinute_141 (by decide) ?_
                  refine lv_icmp_ge (tgt := 167) hx hb dX11_goMinute_143 (by decide) (fun c86001 => ?_) (fun c86001 => ?_)
                  · have zc86001 := leK (show (7 : Int32).toInt = 7 by decide) rfl c86001
                    exact retDw (a15_140, a16_23) hx hb hr hlk hP hD hS dX11_goMinute_167 (trivial) (Nat.le_of_ble_eq_true rfl) (Nat.le_of_ble_eq_true rfl)
                  · have zc86001 := nleK (show (7 : Int32).toInt = 7 by decide) rfl c86001
                    refine lv_aload_n hx hb dX11_goMinute_146 rfl (lv_at hl 0 rfl) ?_
                    refine getF (v := .ref (q 15)) hx hb ht hown hK hP iTX11 0 15 rfl rfl (by decide) fl_RX11_34 rfl dX11_goMinute_147 ?_
                    refine lv_iload_n hx hb dX11_goMinute_150 rfl (lv_at hl 1 rfl) ?_
                    refine lv_dup2_11 hx hb dX11_goMinute_151 rfl rfl ?_
                    refine va_iald hx hb hK.1 hP 7 0 rfl rfl (inK rfl (by omega) (by decide)) dX11_goMinute_152 ?_
                    refine lv_topi (fun v86002 ev86002 => ?_)
                    refine lv_aload_n hx hb dX11_goMinute_153 rfl (lv_at hl 0 rfl) ?_
                    refine getF (v := .ref (q 16)) hx hb ht hown hK hP iTX11 0 16 rfl rfl (by decide) fl_RX11_37 rfl dX11_goMinute_154 ?_
                    refine lv_iload_n hx hb dX11_goMinute_157 rfl (lv_at hl 1 rfl) ?_
                    refine va_iald hx hb hK.1 hP 8 0 rfl rfl (inK rfl (by omega) (by decide)) dX11_goMinute_158 ?_
                    refine lv_topi (fun v86003 ev86003 => ?_)
                    refine lv_iadd hx hb dX11_goMinute_159 ?_
                    refine lv_topi (fun v86004 ev86004 => ?_)
                    refine va_iast hx hb hK.1 hP hD hS 7 0 rfl rfl (inK rfl (by omega) (by decide)) dX11_goMinute_160 (fun H locs hP hD hS => ?_)
                    obtain ⟨g86005, hP, hD⟩ : ∃ g86005 : Nat → Int32, va_P G vwCl (mS cs h q F (vA (vA A 15 g86005) 16 a16_23) D B) H ∧ va_D A0 (mS cs h q F (vA (vA A 15 g86005) 16 a16_23) D B) := ⟨upd a15_140 x140_2.toNatClampNeg v86004, hP, hD⟩
                    obtain ⟨v86006, ev86006⟩ : ∃ z : Int32, z = x140_2 + 1 := ⟨_, rfl⟩
                    have tv86006 : v86006.toInt = x140_2.toInt + 1 := by rw [ev86006]; exact addT rfl (by decide) (by omega)
                    refine lv_iinc (v := v86006) (lv' := [(2, .int v86006), (0, .ref h)]) hx hb dX11_goMinute_161 hl (k := 1) rfl (by rw [ev86006]; rfl) (by decide) rfl (fun ls hl => ?_)
                    refine lv_goto (tgt := 140) hx hb dX11_goMinute_164 (by decide) ?_
                    exact ih140 v86006 g86005 H locs ls (by omega) (by omega) hP hD hS (lv_sub hl [1, 0] rfl)
              exact B140 _ 0 (A 15) H locs ls (Nat.lt_succ_self _) (by decide) hP hD hS (lv_sub hl [1, 0] rfl)
            · have zc15002 := nleK rfl rfl c15002
              refine lv_aload_n hx hb dX11_goMinute_33 rfl (lv_at hl 0 rfl) ?_
              refine lv_iload_n hx hb dX11_goMinute_34 rfl (lv_at hl 2 rfl) ?_
              refine lv_iconst (v := 3) hx hb dX11_goMinute_35 (by decide) ?_
              refine behR (runVP (As := [.int x23_2, .int 3]) (rest := []) ⟨hx, hb, hml, hown, ht⟩ (sX11_of l G cs h q F (vA A 16 a16_23) D B (IM_arr (k := 16) hI (fun _ => i32b _)) x23_2 3 (by omega) (by decide)) okV_RX11_227 ⟨by decide, by decide⟩ hK hP [0, 1, 2, 3, 4, 5, 6, 7, 8, 9, 10, 11, 12, 13, 14, 15, 16, 17, 18, 19] rfl 0 rfl rfl hl.1 rfl (Nat.le_of_ble_eq_true rfl) dX11_goMinute_36 ⟨by decide, by decide⟩) hP hS hA (fun r15003 H locs hr15003 hP hS => ?_)
              have kk15004 : (3 : Int32).toInt = 3 := by decide
              have hr15003 : r15003 = (A 1) (8 + 4 * x23_2.toNatClampNeg + (3 : Int32).toNatClampNeg) ∧ (0 : Int) ≤ r15003.toInt ∧ r15003.toInt ≤ 999 ∧ ((3 : Int32).toInt = 3 → r15003.toInt ≤ 127) ∧ ((3 : Int32).toInt = 2 → r15003.toInt ≤ 99) := hr15003
              refine behR (runSP (As := [.int r15003]) (rest := []) ⟨hx, hb, hml, hown, ht⟩ (sX11_bits l G cs r15003 ) okS_RX11_255 ⟨by decide, by decide⟩ hK hP [] rfl hl.1 rfl (Nat.le_of_ble_eq_true rfl) dX11_goMinute_39 ⟨by decide, by decide⟩) hP hS hA (fun r15005 H locs hr15005 hP hS => ?_)
              refine lv_istore_n (lv' := [(3, .int r15005), (0, .ref h), (1, .int a1), (2, .int x23_2)]) hx hb dX11_goMinute_42 rfl hl (by decide) rfl (fun ls hl => ?_)
              refine lv_iload_n hx hb dX11_goMinute_43 rfl (lv_at hl 0 rfl) ?_
              have B132 : ∀ (a16_132 : (Nat → Int32)) (H : Heap) (locs : List Loc) (ls : Array Slot), va_P G vwCl (mS cs h q F (vA A 16 a16_132) D B) H → va_D A0 (mS cs h q F (vA A 16 a16_132) D B) → va_S A0 s.heap H locs → lv_has ls 6 [(0, .ref h), (1, .int a1), (2, .int x23_2)] → W p l e (rmk 1 0 0) s m args below meth c H locs 0 0 (MQ below ((QDw G (fun u : (Nat → Int32) × (Nat → Int32) => True) (fun u : (Nat → Int32) × (Nat → Int32) => (mS cs h q F (vA (vA A 15 u.1) 16 u.2) D B))) A0) args s 0 0 A0) (F0 m 132 ls []) := by
                intro a16_132 H locs ls hP hD hS hl
                obtain ⟨v82001, ev82001⟩ : ∃ z : Int32, z = x23_2 + 1 := ⟨_, rfl⟩
                have tv82001 : v82001.toInt = x23_2.toInt + 1 := by rw [ev82001]; exact addT rfl (by decide) (by omega)
                refine lv_iinc (v := v82001) (lv' := [(2, .int v82001), (0, .ref h), (1, .int a1)]) hx hb dX11_goMinute_132 hl (k := 2) rfl (by rw [ev82001]; rfl) (by decide) rfl (fun ls hl => ?_)
                refine lv_goto (tgt := 23) hx hb dX11_goMinute_135 (by decide) ?_
                exact ih23 v82001 a16_132 H locs ls (by omega) (by omega) hP hD hS (lv_sub hl [1, 2, 0] rfl)
              refine lv_if_eq (tgt := 132) hx hb dX11_goMinute_44 (by decide) (fun c15006 => ?_) (fun c15006 => ?_)
              · have zc15006 := eqK rfl (show (0 : Int32).toInt = 0 by decide) c15006
                exact B132 a16_23 H locs ls hP hD hS (lv_sub hl [1, 2, 3] rfl)
              · have zc15006 := neK rfl (show (0 : Int32).toInt = 0 by decide) c15006
                refine lv_iload_n hx hb dX11_goMinute_47 rfl (lv_at hl 3 rfl) ?_
                refine lv_iload_n hx hb dX11_goMinute_48 rfl (lv_at hl 2 rfl) ?_
                refine lv_icmp_ne (tgt := 55) hx hb dX11_goMinute_49 (by decide) (fun c15007 => ?_) (fun c15007 => ?_)
                · have zc15007 := neK rfl rfl c15007
                  refine lv_aload_n hx hb dX11_goMinute_55 rfl (lv_at hl 1 rfl) ?_
                  refine getF (v := .ref (q 15)) hx hb ht hown hK hP iTX11 0 15 rfl rfl (by decide) fl_RX11_34 rfl dX11_goMinute_56 ?_
                  refine lv_iload_n hx hb dX11_goMinute_59 rfl (lv_at hl 3 rfl) ?_
                  refine va_iald hx hb hK.1 hP 7 0 rfl rfl (inK rfl (by omega) (by decide)) dX11_goMinute_60 ?_
                  refine lv_topi (fun v15008 ev15008 => ?_)
                  refine lv_aload_n hx hb dX11_goMinute_61 rfl (lv_at hl 1 rfl) ?_
                  refine getF (v := .ref (q 1)) hx hb ht hown hK hP iTX11 0 1 rfl rfl (by decide) fl_RX11_9 rfl dX11_goMinute_62 ?_
                  refine lv_iconst (v := 0) hx hb dX11_goMinute_65 (by decide) ?_
                  refine va_iald hx hb hK.1 hP 1 0 rfl rfl (show ¬ (_ ∨ _) by decide) dX11_goMinute_66 ?_
                  refine W.eq (g2 := F0 m 67 ls [.int (A 1 0), .int v15008]) rfl ?_
                  refine lv_imul hx hb dX11_goMinute_67 ?_
                  refine lv_topi (fun v15009 ev15009 => ?_)
                  refine lv_bipush (v := 100) hx hb dX11_goMinute_68 (by decide) ?_
                  refine lv_idiv hx hb dX11_goMinute_70 (by decide) ?_
                  refine lv_topi (fun v15010 ev15010 => ?_)
                  refine lv_iload_n hx hb dX11_goMinute_71 rfl (lv_at hl 0 rfl) ?_
                  refine lv_idiv hx hb dX11_goMinute_72 (n0K rfl (by omega)) ?_
                  refine lv_topi (fun v15011 ev15011 => ?_)
                  refine lv_istore (lv' := [(4, .int v15011), (3, .int r15005), (0, .ref h), (1, .int a1), (2, .int x23_2)]) hx hb dX11_goMinute_73 hl (by decide) rfl (fun ls hl => ?_)
                  refine lv_aload_n hx hb dX11_goMinute_75 rfl (lv_at hl 2 rfl) ?_
                  refine getF (v := .ref (q 16)) hx hb ht hown hK hP iTX11 0 16 rfl rfl (by decide) fl_RX11_37 rfl dX11_goMinute_76 ?_
                  refine lv_iload_n hx hb dX11_goMinute_79 rfl (lv_at hl 4 rfl) ?_
                  refine lv_dup2_11 hx hb dX11_goMinute_80 rfl rfl ?_
                  refine va_iald hx hb hK.1 hP 8 0 rfl rfl (inK rfl (by omega) (by decide)) dX11_goMinute_81 ?_
                  refine lv_topi (fun v15012 ev15012 => ?_)
                  refine lv_iload hx hb dX11_goMinute_82 (lv_at hl 0 rfl) ?_
                  refine lv_iload_n hx hb dX11_goMinute_84 rfl (lv_at hl 1 rfl) ?_
                  refine lv_imul hx hb dX11_goMinute_85 ?_
                  refine lv_topi (fun v15013 ev15013 => ?_)
                  refine lv_isub hx hb dX11_goMinute_86 ?_
                  refine lv_topi (fun v15014 ev15014 => ?_)
                  refine va_iast hx hb hK.1 hP hD hS 8 0 rfl rfl (inK rfl (by omega) (by decide)) dX11_goMinute_87 (fun H locs hP hD hS => ?_)
                  obtain ⟨g15015, hP, hD⟩ : ∃ g15015 : Nat → Int32, va_P G vwCl (mS cs h q F (vA A 16 g15015) D B) H ∧ va_D A0 (mS cs h q F (vA A 16 g15015) D B) := ⟨upd a16_23 x23_2.toNatClampNeg v15014, hP, hD⟩
                  refine lv_iconst (v := 0) hx hb dX11_goMinute_88 (by decide) ?_
                  refine lv_istore (lv' := [(5, .int 0), (4, .int v15011), (3, .int r15005), (0, .ref h), (1, .int a1), (2, .int x23_2)]) hx hb dX11_goMinute_89 hl (by decide) rfl (fun ls hl => ?_)
                  have B91 : ∀ (n : Nat) (x91_5 : Int32) (a16_91 : (Nat → Int32)) (H : Heap) (locs : List Loc) (ls : Array Slot), (7 - x91_5.toInt).toNat < n → (0 : Int) ≤ x91_5.toInt ∧ x91_5.toInt ≤ 7 → va_P G vwCl (mS cs h q F (vA A 16 a16_91) D B) H → va_D A0 (mS cs h q F (vA A 16 a16_91) D B) → va_S A0 s.heap H locs → lv_has ls 6 [(0, .ref h), (1, .int a1), (2, .int x23_2), (4, .int v15011), (5, .int x91_5)] → W p l e (rmk 1 0 0) s m args below meth c H locs 0 0 (MQ below ((QDw G (fun u : (Nat → Int32) × (Nat → Int32) => True) (fun u : (Nat → Int32) × (Nat → Int32) => (mS cs h q F (vA (vA A 15 u.1) 16 u.2) D B))) A0) args s 0 0 A0) (F0 m 91 ls []) := by
                    intro n
                    induction n with
                    | zero => intro x91_5 a16_91 H locs ls hmeas hx91_5 hP hD hS hl; exact absurd hmeas (Nat.not_lt_zero _)
                    | succ n ih91 =>
                      intro x91_5 a16_91 H locs ls hmeas hx91_5 hP hD hS hl
                      refine lv_iload hx hb dX11_goMinute_91 (lv_at hl 4 rfl) ?_
                      refine lv_aload_n hx hb dX11_goMinute_93 rfl (lv_at hl 0 rfl) ?_
                      refine getF (v := .ref (q 1)) hx hb ht hown hK hP iTX11 0 1 rfl rfl (by decide) fl_RX11_9 rfl dX11_goMinute_94 ?_
                      refine lv_iconst (v := 4) hx hb dX11_goMinute_97 (by decide) ?_
                      refine va_iald hx hb hK.1 hP 1 0 rfl rfl (show ¬ (_ ∨ _) by decide) dX11_goMinute_98 ?_
                      refine W.eq (g2 := F0 m 99 ls [.int (A 1 4), .int x91_5]) rfl ?_
                      have zf59001 : (0 : Int) ≤ (A 1 4).toInt ∧ (A 1 4).toInt ≤ 7 := (hI.2 1 4)
                      refine lv_icmp_ge (tgt := 132) hx hb dX11_goMinute_99 (by decide) (fun c59002 => ?_) (fun c59002 => ?_)
                      · have zc59002 := leK rfl rfl c59002
                        exact B132 a16_91 H locs ls hP hD hS (lv_sub hl [0, 1, 2] rfl)
                      · have zc59002 := nleK rfl rfl c59002
                        refine lv_aload_n hx hb dX11_goMinute_102 rfl (lv_at hl 0 rfl) ?_
                        refine getF (v := .ref (q 16)) hx hb ht hown hK hP iTX11 0 16 rfl rfl (by decide) fl_RX11_37 rfl dX11_goMinute_103 ?_
                        refine lv_iload hx hb dX11_goMinute_106 (lv_at hl 4 rfl) ?_
                        refine lv_dup2_11 hx hb dX11_goMinute_108 rfl rfl ?_
                        refine va_iald hx hb hK.1 hP 8 0 rfl rfl (inK rfl (by omega) (by decide)) dX11_goMinute_109 ?_
                        refine lv_topi (fun v59003 ev59003 => ?_)
                        refine lv_aload_n hx hb dX11_goMinute_110 rfl (lv_at hl 0 rfl) ?_
                        refine lv_iload_n hx hb dX11_goMinute_111 rfl (lv_at hl 2 rfl) ?_
                        refine lv_iconst (v := 3) hx hb dX11_goMinute_112 (by decide) ?_
                        refine behR (runVP (As := [.int x23_2, .int 3]) (rest := [.int v59003, .int x91_5, .ref (q 16)]) ⟨hx, hb, hml, hown, ht⟩ (sX11_of l G cs h q F (vA A 16 a16_91) D B (IM_arr (k := 16) hI (fun _ => i32b _)) x23_2 3 (by omega) (by decide)) okV_RX11_227 ⟨by decide, by decide⟩ hK hP [0, 1, 2, 3, 4, 5, 6, 7, 8, 9, 10, 11, 12, 13, 14, 15, 16, 17, 18, 19] rfl 0 rfl rfl hl.1 rfl (Nat.le_of_ble_eq_true rfl) dX11_goMinute_113 ⟨by decide, by decide⟩) hP hS hA (fun r59004 H locs hr59004 hP hS => ?_)
                        have kk59005 : (3 : Int32).toInt = 3 := by decide
                        have hr59004 : r59004 = (A 1) (8 + 4 * x23_2.toNatClampNeg + (3 : Int32).toNatClampNeg) ∧ (0 : Int) ≤ r59004.toInt ∧ r59004.toInt ≤ 999 ∧ ((3 : Int32).toInt = 3 → r59004.toInt ≤ 127) ∧ ((3 : Int32).toInt = 2 → r59004.toInt ≤ 99) := hr59004
                        refine lv_iload hx hb dX11_goMinute_116 (lv_at hl 4 rfl) ?_
                        refine behR (runSP (As := [.int r59004, .int x91_5]) (rest := [.int v59003, .int x91_5, .ref (q 16)]) ⟨hx, hb, hml, hown, ht⟩ (sX11_bit l G cs r59004 x91_5 ) okS_RX11_258 ⟨by decide, by decide⟩ hK hP [] rfl hl.1 rfl (Nat.le_of_ble_eq_true rfl) dX11_goMinute_118 ⟨by decide, by decide⟩) hP hS hA (fun r59006 H locs hr59006 hP hS => ?_)
                        have hr59006 : r59006 = bitE r59004 x91_5 ∧ (0 : Int) ≤ r59006.toInt ∧ r59006.toInt ≤ 1 := hr59006
                        refine lv_iload hx hb dX11_goMinute_121 (lv_at hl 3 rfl) ?_
                        refine lv_imul hx hb dX11_goMinute_123 ?_
                        refine lv_topi (fun v59007 ev59007 => ?_)
                        have tv59007 : (r59006.toInt = 0 ∧ v59007.toInt = 0) ∨ (r59006.toInt = 1 ∧ v59007.toInt = v15011.toInt) := by rw [ev59007]; exact mul01T rfl rfl (by omega)
                        refine lv_iadd hx hb dX11_goMinute_124 ?_
                        refine lv_topi (fun v59008 ev59008 => ?_)
                        refine va_iast hx hb hK.1 hP hD hS 8 0 rfl rfl (inK rfl (by omega) (by decide)) dX11_goMinute_125 (fun H locs hP hD hS => ?_)
                        obtain ⟨g59009, hP, hD⟩ : ∃ g59009 : Nat → Int32, va_P G vwCl (mS cs h q F (vA A 16 g59009) D B) H ∧ va_D A0 (mS cs h q F (vA A 16 g59009) D B) := ⟨upd a16_91 x91_5.toNatClampNeg v59008, hP, hD⟩
                        obtain ⟨v59010, ev59010⟩ : ∃ z : Int32, z = x91_5 + 1 := ⟨_, rfl⟩
                        have tv59010 : v59010.toInt = x91_5.toInt + 1 := by rw [ev59010]; exact addT rfl (by decide) (by omega)
                        refine lv_iinc (v := v59010) (lv' := [(5, .int v59010), (0, .ref h), (1, .int a1), (2, .int x23_2), (4, .int v15011)]) hx hb dX11_goMinute_126 hl (k := 4) rfl (by rw [ev59010]; rfl) (by decide) rfl (fun ls hl => ?_)
                        refine lv_goto (tgt := 91) hx hb dX11_goMinute_129 (by decide) ?_
                        exact ih91 v59010 g59009 H locs ls (by omega) (by omega) hP hD hS (lv_sub hl [1, 2, 3, 4, 0] rfl)
                  exact B91 _ 0 g15015 H locs ls (Nat.lt_succ_self _) (by decide) hP hD hS (lv_sub hl [3, 4, 5, 1, 0] rfl)
                · have zc15007 := eqK rfl rfl c15007
                  refine lv_goto (tgt := 132) hx hb dX11_goMinute_52 (by decide) ?_
                  exact B132 a16_23 H locs ls hP hD hS (lv_sub hl [1, 2, 3] rfl)
        exact B23 _ 0 a16_2 H locs ls (Nat.lt_succ_self _) (by decide) hP hD hS (lv_sub hl [1, 2, 0] rfl)
      · have zc3001 := nleK (show (7 : Int32).toInt = 7 by decide) rfl c3001
        refine lv_aload_n hx hb dX11_goMinute_8 rfl (lv_at hl 0 rfl) ?_
        refine getF (v := .ref (q 16)) hx hb ht hown hK hP iTX11 0 16 rfl rfl (by decide) fl_RX11_37 rfl dX11_goMinute_9 ?_
        refine lv_iload_n hx hb dX11_goMinute_12 rfl (lv_at hl 2 rfl) ?_
        refine lv_iconst (v := 0) hx hb dX11_goMinute_13 (by decide) ?_
        refine va_iast hx hb hK.1 hP hD hS 8 0 rfl rfl (inK rfl (by omega) (by decide)) dX11_goMinute_14 (fun H locs hP hD hS => ?_)
        obtain ⟨g3002, hP, hD⟩ : ∃ g3002 : Nat → Int32, va_P G vwCl (mS cs h q F (vA A 16 g3002) D B) H ∧ va_D A0 (mS cs h q F (vA A 16 g3002) D B) := ⟨upd a16_2 x2_2.toNatClampNeg (0 : Int32), hP, hD⟩
        obtain ⟨v3003, ev3003⟩ : ∃ z : Int32, z = x2_2 + 1 := ⟨_, rfl⟩
        have tv3003 : v3003.toInt = x2_2.toInt + 1 := by rw [ev3003]; exact addT rfl (by decide) (by omega)
        refine lv_iinc (v := v3003) (lv' := [(2, .int v3003), (0, .ref h), (1, .int a1)]) hx hb dX11_goMinute_15 hl (k := 2) rfl (by rw [ev3003]; rfl) (by decide) rfl (fun ls hl => ?_)
        refine lv_goto (tgt := 2) hx hb dX11_goMinute_18 (by decide) ?_
        exact ih2 v3003 g3002 H locs ls (by omega) (by omega) hP hD hS (lv_sub hl [1, 2, 0] rfl)
  exact B2 _ 0 (A 16) s.heap [] ls (Nat.lt_succ_self _) (by decide) hP hD hS (lv_sub hl [1, 2, 0] rfl)

set_option maxRecDepth 100000 in
set_option maxHeartbeats 8000000 in
theorem sX11_asItIs (l : Launch) (G : va_G) (cs : Nat → ClassId) (h : Nat) (q : Nat → Nat) (F : Nat → Int32) (A : Nat → Nat → Int32) (D : Int64) (B : Nat → Nat → Int64) (hI : IM F A) : ImpW l yX11_asItIs cX11_asItIs 2 4 0 0 G (TY cs) [.ref h] (mS cs h q F A D B) (fun u : Int32 × Int32 × (Nat → Int32) × (Nat → Int32) => True) (fun u : Int32 × Int32 × (Nat → Int32) × (Nat → Int32) => (mS cs h q (upd (upd F 17 u.1) 18 u.2.1) (vA (vA A 15 u.2.2.1) 16 u.2.2.2) D B)) := by
  refine mkD (Qc := (QDw G (fun u : Int32 × Int32 × (Nat → Int32) × (Nat → Int32) => True) (fun u : Int32 × Int32 × (Nat → Int32) × (Nat → Int32) => (mS cs h q (upd (upd F 17 u.1) 18 u.2.1) (vA (vA A 15 u.2.2.1) 16 u.2.2.2) D B)))) (by decide) (by simp [lg_sl, Value.category]) ?_
  intro p e s m args below meth c ls A0 hx hb hml hr hlk hown hmn ht hK hP hD hS hA hl
  have hl : lv_has ls 2 [(0, .ref h)] := hl
  refine lv_aload_n hx hb dX11_asItIs_0 rfl (lv_at hl 0 rfl) ?_
  refine behDw (wr := []) (runVD (As := []) (rest := []) ⟨hx, hb, hml, hown, ht⟩ (sX11_beAtFirst l G cs h q F A D B hI  ) okV_RX11_261 ⟨by decide, by decide⟩ hK hP hD [0, 1, 2, 3, 4, 5, 6, 7, 8, 9, 10, 11, 12, 13, 14, 15, 16, 17, 18, 19] rfl (by decide) rfl 0 rfl rfl hl.1 rfl (Nat.le_of_ble_eq_true rfl) dX11_asItIs_1 ⟨(Nat.le_of_ble_eq_true rfl), (Nat.le_of_ble_eq_true rfl)⟩) hP hD hS hA [0, 1, 2, 3, 4, 5, 6, 7, 8, 9, 10, 11, 12, 13, 14, 15, 16, 17, 18, 19] [] rfl rfl (by decide) (by decide) (fun u H locs hu hP hD hS => ?_)
  obtain ⟨x1, x2, g3⟩ := u
  have hr4 := hu
  have hP : va_P G vwCl (mS cs h q (upd (upd F 17 x1) 18 x2) (vA A 15 g3) D B) H := hP
  have hD : va_D A0 (mS cs h q (upd (upd F 17 x1) 18 x2) (vA A 15 g3) D B) := hD
  refine lv_iconst (v := 0) hx hb dX11_asItIs_4 (by decide) ?_
  refine lv_istore_n (lv' := [(1, .int 0), (0, .ref h)]) hx hb dX11_asItIs_5 rfl hl (by decide) rfl (fun ls hl => ?_)
  have B6 : ∀ (n : Nat) (x6_1 : Int32) (f18_6 : Int32) (a15_6 : (Nat → Int32)) (a16_6 : (Nat → Int32)) (H : Heap) (locs : List Loc) (ls : Array Slot), (60 - x6_1.toInt).toNat < n → (0 : Int) ≤ x6_1.toInt ∧ x6_1.toInt ≤ 60 → va_P G vwCl (mS cs h q (upd (upd F 17 x1) 18 f18_6) (vA (vA A 15 a15_6) 16 a16_6) D B) H → va_D A0 (mS cs h q (upd (upd F 17 x1) 18 f18_6) (vA (vA A 15 a15_6) 16 a16_6) D B) → va_S A0 s.heap H locs → lv_has ls 2 [(0, .ref h), (1, .int x6_1)] → W p l e (rmk 4 0 0) s m args below meth c H locs 0 0 (MQ below ((QDw G (fun u : Int32 × Int32 × (Nat → Int32) × (Nat → Int32) => True) (fun u : Int32 × Int32 × (Nat → Int32) × (Nat → Int32) => (mS cs h q (upd (upd F 17 u.1) 18 u.2.1) (vA (vA A 15 u.2.2.1) 16 u.2.2.2) D B))) A0) args s 0 0 A0) (F0 m 6 ls []) := by
    intro n
    induction n with
    | zero => intro x6_1 f18_6 a15_6 a16_6 H locs ls hmeas hx6_1 hP hD hS hl; exact absurd hmeas (Nat.not_lt_zero _)
    | succ n ih6 =>
      intro x6_1 f18_6 a15_6 a16_6 H locs ls hmeas hx6_1 hP hD hS hl
      refine lv_iload_n hx hb dX11_asItIs_6 rfl (lv_at hl 1 rfl) ?_
      refine lv_aload_n hx hb dX11_asItIs_7 rfl (lv_at hl 0 rfl) ?_
      refine getF (v := .ref (q 1)) hx hb ht hown hK hP iTX11 0 1 rfl rfl (by decide) fl_RX11_9 rfl dX11_asItIs_8 ?_
      refine lv_bipush (v := 7) hx hb dX11_asItIs_11 (by decide) ?_
      refine va_iald hx hb hK.1 hP 1 0 rfl rfl (show ¬ (_ ∨ _) by decide) dX11_asItIs_13 ?_
      refine W.eq (g2 := F0 m 14 ls [.int (A 1 7), .int x6_1]) rfl ?_
      have zf5001 : (0 : Int) ≤ (A 1 7).toInt ∧ (A 1 7).toInt ≤ 60 := (hI.2 1 7)
      refine lv_icmp_ge (tgt := 43) hx hb dX11_asItIs_14 (by decide) (fun c5002 => ?_) (fun c5002 => ?_)
      · have zc5002 := leK rfl rfl c5002
        exact retDw (x1, f18_6, a15_6, a16_6) hx hb hr hlk hP hD hS dX11_asItIs_43 (trivial) (Nat.le_of_ble_eq_true rfl) (Nat.le_of_ble_eq_true rfl)
      · have zc5002 := nleK rfl rfl c5002
        refine lv_aload_n hx hb dX11_asItIs_17 rfl (lv_at hl 0 rfl) ?_
        refine lv_aload_n hx hb dX11_asItIs_18 rfl (lv_at hl 0 rfl) ?_
        refine getF (v := .ref (q 1)) hx hb ht hown hK hP iTX11 0 1 rfl rfl (by decide) fl_RX11_9 rfl dX11_asItIs_19 ?_
        refine lv_bipush (v := 84) hx hb dX11_asItIs_22 (by decide) ?_
        refine lv_iload_n hx hb dX11_asItIs_24 rfl (lv_at hl 1 rfl) ?_
        refine lv_iadd hx hb dX11_asItIs_25 ?_
        refine lv_topi (fun v5003 ev5003 => ?_)
        have tv5003 : v5003.toInt = 84 + x6_1.toInt := by rw [ev5003]; exact addT (show (84 : Int32).toInt = 84 by decide) rfl (by omega)
        refine va_iald hx hb hK.1 hP 1 0 rfl rfl (inK rfl (by omega) (by decide)) dX11_asItIs_26 ?_
        refine lv_topi (fun v5004 ev5004 => ?_)
        have zf5005 : (-1 : Int) ≤ v5004.toInt ∧ v5004.toInt ≤ 6 := by rw [ev5004]; exact w84 (k := 1) (fun j => (hI.2 1 j)) ⟨rfl, rfl⟩ (by have zz := clK (i := v5003) rfl (by omega); omega)
        refine lv_iconst (v := 0) hx hb dX11_asItIs_27 (by decide) ?_
        refine behDi (wr := []) (runVD (As := [.int v5004, .int 0]) (rest := []) ⟨hx, hb, hml, hown, ht⟩ (sX11_callIn l G cs h q (upd (upd F 17 x1) 18 f18_6) (vA (vA A 15 a15_6) 16 a16_6) D B (IM_arr (k := 16) (IM_arr (k := 15) (IM_put (k := 18) (IM_put (k := 17) hI (i32b _)) (i32b _)) (fun _ => i32b _)) (fun _ => i32b _)) v5004 0 (by omega) (by decide)) okV_RX11_264 ⟨by decide, by decide⟩ hK hP hD [0, 1, 2, 3, 4, 5, 6, 7, 8, 9, 10, 11, 12, 13, 14, 15, 16, 17, 18, 19] rfl (by decide) rfl 0 rfl rfl hl.1 rfl (Nat.le_of_ble_eq_true rfl) dX11_asItIs_28 ⟨(Nat.le_of_ble_eq_true rfl), (Nat.le_of_ble_eq_true rfl)⟩) hP hD hS hA [0, 1, 2, 3, 4, 5, 6, 7, 8, 9, 10, 11, 12, 13, 14, 15, 16, 17, 18, 19] [] rfl rfl (by decide) (by decide) (fun r9 u H locs hu hP hD hS => ?_)
        obtain ⟨x5006, g5007⟩ := u
        obtain ⟨r5008, rfl⟩ : ∃ z, z = r9 := ⟨_, rfl⟩
        have hr5008 := hu
        have hP : va_P G vwCl (mS cs h q (upd (upd F 17 x1) 18 x5006) (vA (vA A 15 g5007) 16 a16_6) D B) H := hP
        have hD : va_D A0 (mS cs h q (upd (upd F 17 x1) 18 x5006) (vA (vA A 15 g5007) 16 a16_6) D B) := hD
        refine lv_pop hx hb dX11_asItIs_31 rfl ?_
        refine lv_aload_n hx hb dX11_asItIs_32 rfl (lv_at hl 0 rfl) ?_
        refine lv_iconst (v := (-1)) hx hb dX11_asItIs_33 (by decide) ?_
        refine behDw (wr := []) (runVD (As := [.int (-1)]) (rest := []) ⟨hx, hb, hml, hown, ht⟩ (sX11_goMinute l G cs h q (upd (upd F 17 x1) 18 x5006) (vA (vA A 15 g5007) 16 a16_6) D B (IM_arr (k := 16) (IM_arr (k := 15) (IM_put (k := 18) (IM_put (k := 17) hI (i32b _)) (i32b _)) (fun _ => i32b _)) (fun _ => i32b _)) (-1) ) okV_RX11_267 ⟨by decide, by decide⟩ hK hP hD [0, 1, 2, 3, 4, 5, 6, 7, 8, 9, 10, 11, 12, 13, 14, 15, 16, 17, 18, 19] rfl (by decide) rfl 0 rfl rfl hl.1 rfl (Nat.le_of_ble_eq_true rfl) dX11_asItIs_34 ⟨(Nat.le_of_ble_eq_true rfl), (Nat.le_of_ble_eq_true rfl)⟩) hP hD hS hA [0, 1, 2, 3, 4, 5, 6, 7, 8, 9, 10, 11, 12, 13, 14, 15, 16, 17, 18, 19] [] rfl rfl (by decide) (by decide) (fun u H locs hu hP hD hS => ?_)
        obtain ⟨g5009, g5010⟩ := u
        have hr5011 := hu
        have hP : va_P G vwCl (mS cs h q (upd (upd F 17 x1) 18 x5006) (vA (vA A 15 g5009) 16 g5010) D B) H := hP
        have hD : va_D A0 (mS cs h q (upd (upd F 17 x1) 18 x5006) (vA (vA A 15 g5009) 16 g5010) D B) := hD
        obtain ⟨v5012, ev5012⟩ : ∃ z : Int32, z = x6_1 + 1 := ⟨_, rfl⟩
        have tv5012 : v5012.toInt = x6_1.toInt + 1 := by rw [ev5012]; exact addT rfl (by decide) (by omega)
        refine lv_iinc (v := v5012) (lv' := [(1, .int v5012), (0, .ref h)]) hx hb dX11_asItIs_37 hl (k := 1) rfl (by rw [ev5012]; rfl) (by decide) rfl (fun ls hl => ?_)
        refine lv_goto (tgt := 6) hx hb dX11_asItIs_40 (by decide) ?_
        exact ih6 v5012 x5006 g5009 g5010 H locs ls (by omega) (by omega) hP hD hS (lv_sub hl [1, 0] rfl)
  exact B6 _ 0 x2 g3 (A 16) H locs ls (Nat.lt_succ_self _) (by decide) hP hD hS (lv_sub hl [1, 0] rfl)

set_option maxRecDepth 100000 in
set_option maxHeartbeats 8000000 in
theorem sX11_inHouse (l : Launch) (G : va_G) (cs : Nat → ClassId) (h : Nat) (q : Nat → Nat) (F : Nat → Int32) (A : Nat → Nat → Int32) (D : Int64) (B : Nat → Nat → Int64) (hI : IM F A) : SafeR l yX11_inHouse cX11_inHouse 3 (some .int) 0 G (TY cs) [.ref h] (mS cs h q F A D B) (fun r : Int32 => True) := by
  refine mkP (Qc := QRi (fun r : Int32 => True)) (by decide) (by simp [lg_sl, Value.category]) ?_
  intro p e s m args below meth c ls hx hb hml hr hlk hown ht hK hP hS hl
  have hl : lv_has ls 3 [(0, .ref h)] := hl
  refine lv_iconst (v := 0) hx hb dX11_inHouse_0 (by decide) ?_
  refine lv_istore_n (lv' := [(1, .int 0), (0, .ref h)]) hx hb dX11_inHouse_1 rfl hl (by decide) rfl (fun ls hl => ?_)
  refine lv_iconst (v := 0) hx hb dX11_inHouse_2 (by decide) ?_
  refine lv_istore_n (lv' := [(2, .int 0), (1, .int 0), (0, .ref h)]) hx hb dX11_inHouse_3 rfl hl (by decide) rfl (fun ls hl => ?_)
  have B4 : ∀ (n : Nat) (x4_1 : Int32) (x4_2 : Int32) (H : Heap) (locs : List Loc) (ls : Array Slot), (7 - x4_2.toInt).toNat < n → (0 : Int) ≤ x4_2.toInt ∧ x4_2.toInt ≤ 7 → va_P G vwCl (mS cs h q F A D B) H → va_S (fun q => s.heap.size ≤ q) s.heap H locs → lv_has ls 3 [(0, .ref h), (1, .int x4_1), (2, .int x4_2)] → W p l e (rmk 0 0 0) s m args below meth c H locs 0 0 (MQ below (QRi (fun r : Int32 => True) s.heap.size) args s 0 0 (fun q => s.heap.size ≤ q)) (F0 m 4 ls []) := by
    intro n
    induction n with
    | zero => intro x4_1 x4_2 H locs ls hmeas hx4_2 hP hS hl; exact absurd hmeas (Nat.not_lt_zero _)
    | succ n ih4 =>
      intro x4_1 x4_2 H locs ls hmeas hx4_2 hP hS hl
      refine lv_iload_n hx hb dX11_inHouse_4 rfl (lv_at hl 2 rfl) ?_
      refine lv_aload_n hx hb dX11_inHouse_5 rfl (lv_at hl 0 rfl) ?_
      refine getF (v := .ref (q 1)) hx hb ht hown hK hP iTX11 0 1 rfl rfl (by decide) fl_RX11_9 rfl dX11_inHouse_6 ?_
      refine lv_iconst (v := 4) hx hb dX11_inHouse_9 (by decide) ?_
      refine va_iald hx hb hK.1 hP 1 0 rfl rfl (show ¬ (_ ∨ _) by decide) dX11_inHouse_10 ?_
      refine W.eq (g2 := F0 m 11 ls [.int (A 1 4), .int x4_2]) rfl ?_
      have zf5001 : (0 : Int) ≤ (A 1 4).toInt ∧ (A 1 4).toInt ≤ 7 := (hI.2 1 4)
      refine lv_icmp_ge (tgt := 29) hx hb dX11_inHouse_11 (by decide) (fun c5002 => ?_) (fun c5002 => ?_)
      · have zc5002 := leK rfl rfl c5002
        refine lv_iload_n hx hb dX11_inHouse_29 rfl (lv_at hl 1 rfl) ?_
        exact retRi hx hb hr hlk hS dX11_inHouse_30 (trivial)
      · have zc5002 := nleK rfl rfl c5002
        refine lv_iload_n hx hb dX11_inHouse_14 rfl (lv_at hl 1 rfl) ?_
        refine lv_aload_n hx hb dX11_inHouse_15 rfl (lv_at hl 0 rfl) ?_
        refine getF (v := .ref (q 15)) hx hb ht hown hK hP iTX11 0 15 rfl rfl (by decide) fl_RX11_34 rfl dX11_inHouse_16 ?_
        refine lv_iload_n hx hb dX11_inHouse_19 rfl (lv_at hl 2 rfl) ?_
        refine va_iald hx hb hK.1 hP 7 0 rfl rfl (inK rfl (by omega) (by decide)) dX11_inHouse_20 ?_
        refine lv_topi (fun v5003 ev5003 => ?_)
        refine lv_iadd hx hb dX11_inHouse_21 ?_
        refine lv_topi (fun v5004 ev5004 => ?_)
        refine lv_istore_n (lv' := [(1, .int v5004), (0, .ref h), (2, .int x4_2)]) hx hb dX11_inHouse_22 rfl hl (by decide) rfl (fun ls hl => ?_)
        obtain ⟨v5005, ev5005⟩ : ∃ z : Int32, z = x4_2 + 1 := ⟨_, rfl⟩
        have tv5005 : v5005.toInt = x4_2.toInt + 1 := by rw [ev5005]; exact addT rfl (by decide) (by omega)
        refine lv_iinc (v := v5005) (lv' := [(2, .int v5005), (1, .int v5004), (0, .ref h)]) hx hb dX11_inHouse_23 hl (k := 2) rfl (by rw [ev5005]; rfl) (by decide) rfl (fun ls hl => ?_)
        refine lv_goto (tgt := 4) hx hb dX11_inHouse_26 (by decide) ?_
        exact ih4 v5004 v5005 H locs ls (by omega) (by omega) hP hS (lv_sub hl [2, 1, 0] rfl)
  exact B4 _ 0 0 s.heap [] ls (Nat.lt_succ_self _) (by decide) hP hS (lv_sub hl [2, 1, 0] rfl)

set_option maxRecDepth 100000 in
set_option maxHeartbeats 8000000 in
theorem sX11_inMillion (l : Launch) (G : va_G) (cs : Nat → ClassId) (h : Nat) (q : Nat → Nat) (F : Nat → Int32) (A : Nat → Nat → Int32) (D : Int64) (B : Nat → Nat → Int64) (hI : IM F A) (a1 : Int32) : SafeR l yX11_inMillion cX11_inMillion 3 (some .int) 1 G (TY cs) [.ref h, .int a1] (mS cs h q F A D B) (fun r : Int32 => True) := by
  refine mkP (Qc := QRi (fun r : Int32 => True)) (by decide) (by simp [lg_sl, Value.category]) ?_
  intro p e s m args below meth c ls hx hb hml hr hlk hown ht hK hP hS hl
  have hl : lv_has ls 3 [(0, .ref h), (1, .int a1)] := hl
  refine lv_aload_n hx hb dX11_inMillion_0 rfl (lv_at hl 0 rfl) ?_
  refine behR (runVP (As := []) (rest := []) ⟨hx, hb, hml, hown, ht⟩ (sX11_inHouse l G cs h q F A D B hI  ) okV_RX11_270 ⟨by decide, by decide⟩ hK hP [0, 1, 2, 3, 4, 5, 6, 7, 8, 9, 10, 11, 12, 13, 14, 15, 16, 17, 18, 19] rfl 0 rfl rfl hl.1 rfl (Nat.le_of_ble_eq_true rfl) dX11_inMillion_1 ⟨by decide, by decide⟩) hP hS (fun _ h => h) (fun r1 H locs hr1 hP hS => ?_)
  refine lv_aload_n hx hb dX11_inMillion_4 rfl (lv_at hl 0 rfl) ?_
  refine getF (v := .int (F 17)) hx hb ht hown hK hP iTX11 0 17 rfl rfl (by decide) fl_RX11_246 rfl dX11_inMillion_5 ?_
  refine lv_iadd hx hb dX11_inMillion_8 ?_
  refine lv_topi (fun v2 ev2 => ?_)
  refine lv_istore_n (lv' := [(2, .int v2), (0, .ref h), (1, .int a1)]) hx hb dX11_inMillion_9 rfl hl (by decide) rfl (fun ls hl => ?_)
  refine lv_iload_n hx hb dX11_inMillion_10 rfl (lv_at hl 0 rfl) ?_
  refine lv_if_ne (tgt := 18) hx hb dX11_inMillion_11 (by decide) (fun c3 => ?_) (fun c3 => ?_)
  · have zc3 := neK rfl (show (0 : Int32).toInt = 0 by decide) c3
    refine lv_iload_n hx hb dX11_inMillion_18 rfl (lv_at hl 2 rfl) ?_
    refine lv_i2l hx hb dX11_inMillion_19 rfl ?_
    have bb4 := i32b a1
    refine lv_topl (fun v5 ev5 => ?_)
    have tv5 : v5.toInt = a1.toInt := by rw [ev5]; exact Int32.toInt_toInt64 _
    refine lv_ldc2 hx hb hown (ht _ kl_RX11_273) dX11_inMillion_20 ?_
    refine lv_lmul hx hb dX11_inMillion_23 ?_
    refine lv_topl (fun v6 ev6 => ?_)
    have tv6 : v6.toInt = v5.toInt * 1000000 := by rw [ev6]; exact mulL rfl (show (1000000 : Int64).toInt = 1000000 by decide) (by omega)
    refine lv_iload_n hx hb dX11_inMillion_24 rfl (lv_at hl 0 rfl) ?_
    refine lv_i2l hx hb dX11_inMillion_25 rfl ?_
    have bb7 := i32b v2
    refine lv_topl (fun v8 ev8 => ?_)
    have tv8 : v8.toInt = v2.toInt := by rw [ev8]; exact Int32.toInt_toInt64 _
    refine lv_ldiv hx hb dX11_inMillion_26 (n0L rfl (by omega)) ?_
    refine lv_topl (fun v9 ev9 => ?_)
    refine lv_l2i hx hb dX11_inMillion_27 rfl ?_
    refine lv_topi (fun v10 ev10 => ?_)
    exact retRi hx hb hr hlk hS dX11_inMillion_28 (trivial)
  · have zc3 := eqK rfl (show (0 : Int32).toInt = 0 by decide) c3
    refine lv_iconst (v := 0) hx hb dX11_inMillion_14 (by decide) ?_
    refine lv_goto (tgt := 28) hx hb dX11_inMillion_15 (by decide) ?_
    exact retRi hx hb hr hlk hS dX11_inMillion_28 (trivial)

