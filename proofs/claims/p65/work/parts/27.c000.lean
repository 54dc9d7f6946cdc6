set_option maxRecDepth 100000 in
set_option maxHeartbeats 16000000 in
theorem sJ6_bitCount_0f7a4 (l : Launch) (G : va_G) (cs : Nat → ClassId) (a1 : Int32) : ∀ sz : Nat, Met l yJ6_bitCount_0f7a4 (wk yJ6_bitCount_0f7a4 cJ6_bitCount_0f7a4 1 (some .int)) (rmk 0 0 0) (PreP G (TY cs) [.int a1] ([] : va_W) sz) (QRi (fun r : Int32 => True) sz) 0 0 (fun q => sz ≤ q) := by
  refine mkP (Qc := QRi (fun r : Int32 => True)) (by decide) (by simp [lg_sl, Value.category]) ?_
  intro p e s m args below meth c ls hx hb hml hr hlk hown ht hK hP hS hl
  have hl : lv_has ls 1 [(0, .int a1)] := hl
  refine lv_iload_n hx hb dJ6_bitCount_0f7a4_0 rfl (lv_at hl 0 rfl) ?_
  refine lv_iload_n hx hb dJ6_bitCount_0f7a4_1 rfl (lv_at hl 0 rfl) ?_
  refine lv_iconst (v := 1) hx hb dJ6_bitCount_0f7a4_2 (by decide) ?_
  refine lv_iushr hx hb dJ6_bitCount_0f7a4_3 rfl ?_
  refine lv_topi (fun v1 ev1 => ?_)
  refine lv_ldcw hx hb hown (ht _ ki_RJ6_265) dJ6_bitCount_0f7a4_4 ?_
  refine lv_iand hx hb dJ6_bitCount_0f7a4_7 ?_
  refine lv_topi (fun v2 ev2 => ?_)
  have tv2 : 0 ≤ v2.toInt ∧ v2.toInt ≤ 2147483647 := by rw [ev2]; exact andB 31 (show (1431655765 : Int32).toInt = 1431655765 by decide) (by omega) (by decide)
  refine lv_isub hx hb dJ6_bitCount_0f7a4_8 ?_
  refine lv_topi (fun v3 ev3 => ?_)
  refine lv_istore_n (lv' := [(0, .int v3)]) hx hb dJ6_bitCount_0f7a4_9 rfl hl (by decide) rfl (fun ls hl => ?_)
  refine lv_iload_n hx hb dJ6_bitCount_0f7a4_10 rfl (lv_at hl 0 rfl) ?_
  refine lv_ldcw hx hb hown (ht _ ki_RJ6_266) dJ6_bitCount_0f7a4_11 ?_
  refine lv_iand hx hb dJ6_bitCount_0f7a4_14 ?_
  refine lv_topi (fun v4 ev4 => ?_)
  have tv4 : 0 ≤ v4.toInt ∧ v4.toInt ≤ 1073741823 := by rw [ev4]; exact andB 30 (show (858993459 : Int32).toInt = 858993459 by decide) (by omega) (by decide)
  refine lv_iload_n hx hb dJ6_bitCount_0f7a4_15 rfl (lv_at hl 0 rfl) ?_
  refine lv_iconst (v := 2) hx hb dJ6_bitCount_0f7a4_16 (by decide) ?_
  refine lv_iushr hx hb dJ6_bitCount_0f7a4_17 rfl ?_
  refine lv_topi (fun v5 ev5 => ?_)
  refine lv_ldcw hx hb hown (ht _ ki_RJ6_266) dJ6_bitCount_0f7a4_18 ?_
  refine lv_iand hx hb dJ6_bitCount_0f7a4_21 ?_
  refine lv_topi (fun v6 ev6 => ?_)
  have tv6 : 0 ≤ v6.toInt ∧ v6.toInt ≤ 1073741823 := by rw [ev6]; exact andB 30 (show (858993459 : Int32).toInt = 858993459 by decide) (by omega) (by decide)
  refine lv_iadd hx hb dJ6_bitCount_0f7a4_22 ?_
  refine lv_topi (fun v7 ev7 => ?_)
  have tv7 : v7.toInt = v4.toInt + v6.toInt := by rw [ev7]; exact addT rfl rfl (by omega)
  refine lv_istore_n (lv' := [(0, .int v7)]) hx hb dJ6_bitCount_0f7a4_23 rfl hl (by decide) rfl (fun ls hl => ?_)
  refine lv_iload_n hx hb dJ6_bitCount_0f7a4_24 rfl (lv_at hl 0 rfl) ?_
  refine lv_iload_n hx hb dJ6_bitCount_0f7a4_25 rfl (lv_at hl 0 rfl) ?_
  refine lv_iconst (v := 4) hx hb dJ6_bitCount_0f7a4_26 (by decide) ?_
  refine lv_iushr hx hb dJ6_bitCount_0f7a4_27 rfl ?_
  refine lv_topi (fun v8 ev8 => ?_)
  refine lv_iadd hx hb dJ6_bitCount_0f7a4_28 ?_
  refine lv_topi (fun v9 ev9 => ?_)
  refine lv_ldcw hx hb hown (ht _ ki_RJ6_267) dJ6_bitCount_0f7a4_29 ?_
  refine lv_iand hx hb dJ6_bitCount_0f7a4_32 ?_
  refine lv_topi (fun v10 ev10 => ?_)
  have tv10 : 0 ≤ v10.toInt ∧ v10.toInt ≤ 268435455 := by rw [ev10]; exact andB 28 (show (252645135 : Int32).toInt = 252645135 by decide) (by omega) (by decide)
  refine lv_istore_n (lv' := [(0, .int v10)]) hx hb dJ6_bitCount_0f7a4_33 rfl hl (by decide) rfl (fun ls hl => ?_)
  refine lv_iload_n hx hb dJ6_bitCount_0f7a4_34 rfl (lv_at hl 0 rfl) ?_
  refine lv_iload_n hx hb dJ6_bitCount_0f7a4_35 rfl (lv_at hl 0 rfl) ?_
  refine lv_bipush (v := 8) hx hb dJ6_bitCount_0f7a4_36 (by decide) ?_
  refine lv_iushr hx hb dJ6_bitCount_0f7a4_38 rfl ?_
  refine lv_topi (fun v11 ev11 => ?_)
  refine lv_iadd hx hb dJ6_bitCount_0f7a4_39 ?_
  refine lv_topi (fun v12 ev12 => ?_)
  refine lv_istore_n (lv' := [(0, .int v12)]) hx hb dJ6_bitCount_0f7a4_40 rfl hl (by decide) rfl (fun ls hl => ?_)
  refine lv_iload_n hx hb dJ6_bitCount_0f7a4_41 rfl (lv_at hl 0 rfl) ?_
  refine lv_iload_n hx hb dJ6_bitCount_0f7a4_42 rfl (lv_at hl 0 rfl) ?_
  refine lv_bipush (v := 16) hx hb dJ6_bitCount_0f7a4_43 (by decide) ?_
  refine lv_iushr hx hb dJ6_bitCount_0f7a4_45 rfl ?_
  refine lv_topi (fun v13 ev13 => ?_)
  refine lv_iadd hx hb dJ6_bitCount_0f7a4_46 ?_
  refine lv_topi (fun v14 ev14 => ?_)
  refine lv_istore_n (lv' := [(0, .int v14)]) hx hb dJ6_bitCount_0f7a4_47 rfl hl (by decide) rfl (fun ls hl => ?_)
  refine lv_iload_n hx hb dJ6_bitCount_0f7a4_48 rfl (lv_at hl 0 rfl) ?_
  refine lv_bipush (v := 63) hx hb dJ6_bitCount_0f7a4_49 (by decide) ?_
  refine lv_iand hx hb dJ6_bitCount_0f7a4_51 ?_
  refine lv_topi (fun v15 ev15 => ?_)
  have tv15 : 0 ≤ v15.toInt ∧ v15.toInt ≤ 63 := by rw [ev15]; exact andT 6 (by decide) (by decide) (by decide)
  exact retRi hx hb hr hlk hS dJ6_bitCount_0f7a4_52 (trivial)

set_option maxRecDepth 100000 in
set_option maxHeartbeats 16000000 in
theorem sJ6_numberOfTrailingZeros_0f7a4 (l : Launch) (G : va_G) (cs : Nat → ClassId) (a1 : Int32) (ha1 : (1 : Int) ≤ a1.toInt ∧ a1.toInt ≤ 127) : ∀ sz : Nat, Met l yJ6_numberOfTrailingZeros_0f7a4 (wk yJ6_numberOfTrailingZeros_0f7a4 cJ6_numberOfTrailingZeros_0f7a4 2 (some .int)) (rmk 0 0 0) (PreP G (TY cs) [.int a1] ([] : va_W) sz) (QRi (fun r : Int32 => (0 : Int) ≤ r.toInt ∧ r.toInt ≤ 6) sz) 0 0 (fun q => sz ≤ q) := by
  refine mkP (Qc := QRi (fun r : Int32 => (0 : Int) ≤ r.toInt ∧ r.toInt ≤ 6)) (by decide) (by simp [lg_sl, Value.category]) ?_
  intro p e s m args below meth c ls hx hb hml hr hlk hown ht hK hP hS hl
  have hl : lv_has ls 2 [(0, .int a1)] := hl
  refine lv_iload_n hx hb dJ6_numberOfTrailingZeros_0f7a4_0 rfl (lv_at hl 0 rfl) ?_
  refine lv_iconst (v := (-1)) hx hb dJ6_numberOfTrailingZeros_0f7a4_1 (by decide) ?_
  refine lv_ixor hx hb dJ6_numberOfTrailingZeros_0f7a4_2 ?_
  refine lv_topi (fun v1 ev1 => ?_)
  refine lv_iload_n hx hb dJ6_numberOfTrailingZeros_0f7a4_3 rfl (lv_at hl 0 rfl) ?_
  refine lv_iconst (v := 1) hx hb dJ6_numberOfTrailingZeros_0f7a4_4 (by decide) ?_
  refine lv_isub hx hb dJ6_numberOfTrailingZeros_0f7a4_5 ?_
  refine lv_topi (fun v2 ev2 => ?_)
  have tv2 : v2.toInt = a1.toInt - 1 := by rw [ev2]; exact subT rfl (show (1 : Int32).toInt = 1 by decide) (by omega)
  refine lv_iand hx hb dJ6_numberOfTrailingZeros_0f7a4_6 ?_
  refine lv_topi (fun v3 ev3 => ?_)
  have tv3 : 0 ≤ v3.toInt ∧ v3.toInt ≤ 127 := by rw [ev3]; exact andB 7 rfl (by omega) (by decide)
  refine lv_istore_n (lv' := [(0, .int v3)]) hx hb dJ6_numberOfTrailingZeros_0f7a4_7 rfl hl (by decide) rfl (fun ls hl => ?_)
  have hnt : 0 ≤ v3.toInt ∧ v3.toInt ≤ 63 := by rw [ev3, ev1, ev2]; exact ntzA ha1
  refine lv_iload_n hx hb dJ6_numberOfTrailingZeros_0f7a4_8 rfl (lv_at hl 0 rfl) ?_
  refine lv_if_gt (tgt := 17) hx hb dJ6_numberOfTrailingZeros_0f7a4_9 (by decide) (fun c4 => ?_) (fun c4 => ?_)
  · have zc4 := ltK (show (0 : Int32).toInt = 0 by decide) rfl c4
    refine lv_iconst (v := 1) hx hb dJ6_numberOfTrailingZeros_0f7a4_17 (by decide) ?_
    refine lv_istore_n (lv' := [(1, .int 1), (0, .int v3)]) hx hb dJ6_numberOfTrailingZeros_0f7a4_18 rfl hl (by decide) rfl (fun ls hl => ?_)
    refine lv_iload_n hx hb dJ6_numberOfTrailingZeros_0f7a4_19 rfl (lv_at hl 1 rfl) ?_
    refine lv_ldcw hx hb hown (ht _ ki_RJ6_264) dJ6_numberOfTrailingZeros_0f7a4_20 ?_
    have B34 : ∀ (H : Heap) (locs : List Loc) (ls : Array Slot), va_P G vwCl ([] : va_W) H → va_S (fun q => s.heap.size ≤ q) s.heap H locs → lv_has ls 2 [(0, .int v3), (1, .int 1)] → W p l e (rmk 0 0 0) s m args below meth c H locs 0 0 (MQ below (QRi (fun r : Int32 => (0 : Int) ≤ r.toInt ∧ r.toInt ≤ 6) s.heap.size) args s 0 0 (fun q => s.heap.size ≤ q)) (F0 m 34 ls []) := by
      intro H locs ls hP hS hl
      refine lv_iload_n hx hb dJ6_numberOfTrailingZeros_0f7a4_34 rfl (lv_at hl 0 rfl) ?_
      refine lv_sipush (v := 256) hx hb dJ6_numberOfTrailingZeros_0f7a4_35 (by decide) ?_
      have B49 : ∀ (H : Heap) (locs : List Loc) (ls : Array Slot), va_P G vwCl ([] : va_W) H → va_S (fun q => s.heap.size ≤ q) s.heap H locs → lv_has ls 2 [(0, .int v3), (1, .int 1)] → W p l e (rmk 0 0 0) s m args below meth c H locs 0 0 (MQ below (QRi (fun r : Int32 => (0 : Int) ≤ r.toInt ∧ r.toInt ≤ 6) s.heap.size) args s 0 0 (fun q => s.heap.size ≤ q)) (F0 m 49 ls []) := by
        intro H locs ls hP hS hl
        refine lv_iload_n hx hb dJ6_numberOfTrailingZeros_0f7a4_49 rfl (lv_at hl 0 rfl) ?_
        refine lv_bipush (v := 16) hx hb dJ6_numberOfTrailingZeros_0f7a4_50 (by decide) ?_
        have B62 : ∀ (x62_0 : Int32) (x62_1 : Int32) (H : Heap) (locs : List Loc) (ls : Array Slot), (1 : Int) ≤ x62_0.toInt ∧ x62_0.toInt ≤ 16 → (1 : Int) ≤ x62_1.toInt ∧ x62_1.toInt ≤ 5 → ((x62_1.toInt = 1 ∧ 1 ≤ x62_0.toInt ∧ x62_0.toInt ≤ 16) ∨ (x62_1.toInt = 5 ∧ 1 ≤ x62_0.toInt ∧ x62_0.toInt ≤ 3)) → va_P G vwCl ([] : va_W) H → va_S (fun q => s.heap.size ≤ q) s.heap H locs → lv_has ls 2 [(0, .int x62_0), (1, .int x62_1)] → W p l e (rmk 0 0 0) s m args below meth c H locs 0 0 (MQ below (QRi (fun r : Int32 => (0 : Int) ≤ r.toInt ∧ r.toInt ≤ 6) s.heap.size) args s 0 0 (fun q => s.heap.size ≤ q)) (F0 m 62 ls []) := by
          intro x62_0 x62_1 H locs ls hx62_0 hx62_1 h62 hP hS hl
          refine lv_iload_n hx hb dJ6_numberOfTrailingZeros_0f7a4_62 rfl (lv_at hl 0 rfl) ?_
          refine lv_iconst (v := 4) hx hb dJ6_numberOfTrailingZeros_0f7a4_63 (by decide) ?_
          refine lv_icmp_le (tgt := 74) hx hb dJ6_numberOfTrailingZeros_0f7a4_64 (by decide) (fun c41001 => ?_) (fun c41001 => ?_)
          · have zc41001 := leK rfl (show (4 : Int32).toInt = 4 by decide) c41001
            refine lv_iload_n hx hb dJ6_numberOfTrailingZeros_0f7a4_74 rfl (lv_at hl 1 rfl) ?_
            refine lv_iload_n hx hb dJ6_numberOfTrailingZeros_0f7a4_75 rfl (lv_at hl 0 rfl) ?_
            refine lv_iconst (v := 1) hx hb dJ6_numberOfTrailingZeros_0f7a4_76 (by decide) ?_
            refine lv_iushr hx hb dJ6_numberOfTrailingZeros_0f7a4_77 rfl ?_
            refine lv_topi (fun v41002 ev41002 => ?_)
            have tv41002 : v41002.toInt = x62_0.toInt / 2 := by rw [ev41002]; exact ushrT 1 (by decide) (by decide) (by decide) rfl (by omega)
            refine lv_iadd hx hb dJ6_numberOfTrailingZeros_0f7a4_78 ?_
            refine lv_topi (fun v41003 ev41003 => ?_)
            have tv41003 : v41003.toInt = x62_1.toInt + v41002.toInt := by rw [ev41003]; exact addT rfl rfl (by omega)
            exact retRi hx hb hr hlk hS dJ6_numberOfTrailingZeros_0f7a4_79 (show (0 : Int) ≤ v41003.toInt ∧ v41003.toInt ≤ 6 by omega)
          · have zc41001 := nleK rfl (show (4 : Int32).toInt = 4 by decide) c41001
            obtain ⟨v41004, ev41004⟩ : ∃ z : Int32, z = x62_1 + 2 := ⟨_, rfl⟩
            have tv41004 : v41004.toInt = x62_1.toInt + 2 := by rw [ev41004]; exact addT rfl (by decide) (by omega)
            refine lv_iinc (v := v41004) (lv' := [(1, .int v41004), (0, .int x62_0)]) hx hb dJ6_numberOfTrailingZeros_0f7a4_67 hl (k := 1) rfl (by rw [ev41004]; rfl) (by decide) rfl (fun ls hl => ?_)
            refine lv_iload_n hx hb dJ6_numberOfTrailingZeros_0f7a4_70 rfl (lv_at hl 1 rfl) ?_
            refine lv_iconst (v := 2) hx hb dJ6_numberOfTrailingZeros_0f7a4_71 (by decide) ?_
            refine lv_iushr hx hb dJ6_numberOfTrailingZeros_0f7a4_72 rfl ?_
            refine lv_topi (fun v41005 ev41005 => ?_)
            have tv41005 : v41005.toInt = x62_0.toInt / 4 := by rw [ev41005]; exact ushrT 2 (by decide) (by decide) (by decide) rfl (by omega)
            refine lv_istore_n (lv' := [(0, .int v41005), (1, .int v41004)]) hx hb dJ6_numberOfTrailingZeros_0f7a4_73 rfl hl (by decide) rfl (fun ls hl => ?_)
            refine lv_iload_n hx hb dJ6_numberOfTrailingZeros_0f7a4_74 rfl (lv_at hl 1 rfl) ?_
            refine lv_iload_n hx hb dJ6_numberOfTrailingZeros_0f7a4_75 rfl (lv_at hl 0 rfl) ?_
            refine lv_iconst (v := 1) hx hb dJ6_numberOfTrailingZeros_0f7a4_76 (by decide) ?_
            refine lv_iushr hx hb dJ6_numberOfTrailingZeros_0f7a4_77 rfl ?_
            refine lv_topi (fun v41006 ev41006 => ?_)
            have tv41006 : v41006.toInt = v41005.toInt / 2 := by rw [ev41006]; exact ushrT 1 (by decide) (by decide) (by decide) rfl (by omega)
            refine lv_iadd hx hb dJ6_numberOfTrailingZeros_0f7a4_78 ?_
            refine lv_topi (fun v41007 ev41007 => ?_)
            have tv41007 : v41007.toInt = v41004.toInt + v41006.toInt := by rw [ev41007]; exact addT rfl rfl (by omega)
            exact retRi hx hb hr hlk hS dJ6_numberOfTrailingZeros_0f7a4_79 (show (0 : Int) ≤ v41007.toInt ∧ v41007.toInt ≤ 6 by omega)
        refine lv_icmp_le (tgt := 62) hx hb dJ6_numberOfTrailingZeros_0f7a4_52 (by decide) (fun c33001 => ?_) (fun c33001 => ?_)
        · have zc33001 := leK rfl (show (16 : Int32).toInt = 16 by decide) c33001
          exact B62 v3 1 H locs ls (by omega) (by decide) (by have k1 : (1 : Int32).toInt = 1 := (by decide); have k5 : (5 : Int32).toInt = 5 := (by decide); omega) hP hS (lv_sub hl [0, 1] rfl)
        · have zc33001 := nleK rfl (show (16 : Int32).toInt = 16 by decide) c33001
          refine lv_iinc (v := 5) (lv' := [(1, .int 5), (0, .int v3)]) hx hb dJ6_numberOfTrailingZeros_0f7a4_55 hl (k := 1) rfl (by decide) (by decide) rfl (fun ls hl => ?_)
          refine lv_iload_n hx hb dJ6_numberOfTrailingZeros_0f7a4_58 rfl (lv_at hl 1 rfl) ?_
          refine lv_iconst (v := 4) hx hb dJ6_numberOfTrailingZeros_0f7a4_59 (by decide) ?_
          refine lv_iushr hx hb dJ6_numberOfTrailingZeros_0f7a4_60 rfl ?_
          refine lv_topi (fun v33002 ev33002 => ?_)
          have tv33002 : v33002.toInt = v3.toInt / 16 := by rw [ev33002]; exact ushrT 4 (by decide) (by decide) (by decide) rfl (by omega)
          refine lv_istore_n (lv' := [(0, .int v33002), (1, .int 5)]) hx hb dJ6_numberOfTrailingZeros_0f7a4_61 rfl hl (by decide) rfl (fun ls hl => ?_)
          exact B62 v33002 5 H locs ls (by omega) (by decide) (by have k1 : (1 : Int32).toInt = 1 := (by decide); have k5 : (5 : Int32).toInt = 5 := (by decide); omega) hP hS (lv_sub hl [0, 1] rfl)
      refine lv_icmp_le (tgt := 49) hx hb dJ6_numberOfTrailingZeros_0f7a4_38 (by decide) (fun c25001 => ?_) (fun c25001 => False.elim (by have zz := nleK rfl (show (256 : Int32).toInt = 256 by decide) c25001; omega))
      exact B49 H locs ls hP hS (lv_sub hl [0, 1] rfl)
    refine lv_icmp_le (tgt := 34) hx hb dJ6_numberOfTrailingZeros_0f7a4_23 (by decide) (fun c5 => ?_) (fun c5 => False.elim (by have zz := nleK rfl (show (65536 : Int32).toInt = 65536 by decide) c5; omega))
    exact B34 s.heap [] ls hP hS (lv_sub hl [1, 0] rfl)
  · have zc4 := nltK (show (0 : Int32).toInt = 0 by decide) rfl c4
    refine lv_iload_n hx hb dJ6_numberOfTrailingZeros_0f7a4_12 rfl (lv_at hl 0 rfl) ?_
    refine lv_bipush (v := 32) hx hb dJ6_numberOfTrailingZeros_0f7a4_13 (by decide) ?_
    refine lv_iand hx hb dJ6_numberOfTrailingZeros_0f7a4_15 ?_
    refine lv_topi (fun v6 ev6 => ?_)
    have tv6 : 0 ≤ v6.toInt ∧ v6.toInt ≤ 1 := by rw [ev6]; exact andA 1 rfl (by omega) (by decide)
    exact retRi hx hb hr hlk hS dJ6_numberOfTrailingZeros_0f7a4_16 (show (0 : Int) ≤ v6.toInt ∧ v6.toInt ≤ 6 by omega)

set_option maxRecDepth 100000 in
set_option maxHeartbeats 16000000 in
theorem sX3_limit (l : Launch) (G : va_G) (cs : Nat → ClassId) (a1 : Int32) : ∀ sz : Nat, Met l yX3_limit (wk yX3_limit cX3_limit 1 (some .int)) (rmk 0 0 0) (PreP G (TY cs) [.int a1] ([] : va_W) sz) (QRi (fun r : Int32 => True) sz) 0 0 (fun q => sz ≤ q) := by
  refine mkP (Qc := QRi (fun r : Int32 => True)) (by decide) (by simp [lg_sl, Value.category]) ?_
  intro p e s m args below meth c ls hx hb hml hr hlk hown ht hK hP hS hl
  have hl : lv_has ls 1 [(0, .int a1)] := hl
  refine lv_iload_n hx hb dX3_limit_0 rfl (lv_at hl 0 rfl) ?_
  rcases csN2 a1 with hN | hN | rfl | rfl
  · refine lv_lookup (off := 34) (tgt := 35) hx hb dX3_limit_1 (by decide) ((lv_osw (nK (b := (0 : Int32)) (by omega : ¬ a1.toInt = 0)) (by decide)).trans ((lv_osw (nK (b := (1 : Int32)) (by omega : ¬ a1.toInt = 1)) (by decide)).trans rfl)) (by decide) ?_
    refine lv_bipush (v := 99) hx hb dX3_limit_35 (by decide) ?_
    exact retRi hx hb hr hlk hS dX3_limit_37 (trivial)
  · refine lv_lookup (off := 34) (tgt := 35) hx hb dX3_limit_1 (by decide) ((lv_osw (nK (b := (0 : Int32)) (by omega : ¬ a1.toInt = 0)) (by decide)).trans ((lv_osw (nK (b := (1 : Int32)) (by omega : ¬ a1.toInt = 1)) (by decide)).trans rfl)) (by decide) ?_
    refine lv_bipush (v := 99) hx hb dX3_limit_35 (by decide) ?_
    exact retRi hx hb hr hlk hS dX3_limit_37 (trivial)
  · refine lv_lookup (off := 27) (tgt := 28) hx hb dX3_limit_1 (by decide) (by decide) (by decide) ?_
    refine lv_sipush (v := 999) hx hb dX3_limit_28 (by decide) ?_
    exact retRi hx hb hr hlk hS dX3_limit_31 (trivial)
  · refine lv_lookup (off := 31) (tgt := 32) hx hb dX3_limit_1 (by decide) (by decide) (by decide) ?_
    refine lv_bipush (v := 100) hx hb dX3_limit_32 (by decide) ?_
    exact retRi hx hb hr hlk hS dX3_limit_34 (trivial)

set_option maxRecDepth 100000 in
set_option maxHeartbeats 16000000 in
theorem sX3_hasRoom (l : Launch) (G : va_G) (cs : Nat → ClassId) (adt : Nat) (qt : Nat → Nat) (Ft : Nat → Int32) (At : Nat → Nat → Int32) (Bt : Nat → Nat → Int64) (Dt : Int64) (hIt : IX3 Ft At) (a1 : Int32) : ∀ sz : Nat, Met l yX3_hasRoom (wk yX3_hasRoom cX3_hasRoom 2 (some .boolean)) (rmk 0 0 0) (PreP G (TY cs) [.ref adt, .int a1] (uX3 cs adt qt Ft At Bt Dt) sz) (QRi (fun r : Int32 => (r.toInt = 1 ∧ 0 ≤ a1.toInt ∧ a1.toInt < (Ft 5).toInt ∧ a1.toInt ≤ 6) ∨ r.toInt = 0) sz) 0 0 (fun q => sz ≤ q) := by
  refine mkP (Qc := QRi (fun r : Int32 => (r.toInt = 1 ∧ 0 ≤ a1.toInt ∧ a1.toInt < (Ft 5).toInt ∧ a1.toInt ≤ 6) ∨ r.toInt = 0)) (by decide) (by simp [lg_sl, Value.category]) ?_
  intro p e s m args below meth c ls hx hb hml hr hlk hown ht hK hP hS hl
  have hl : lv_has ls 2 [(0, .ref adt), (1, .int a1)] := hl
  refine lv_iload_n hx hb dX3_hasRoom_0 rfl (lv_at hl 1 rfl) ?_
  refine lv_if_lt (tgt := 16) hx hb dX3_hasRoom_1 (by decide) (fun c1 => ?_) (fun c1 => ?_)
  · have zc1 := ltK rfl (show (0 : Int32).toInt = 0 by decide) c1
    refine lv_iconst (v := 0) hx hb dX3_hasRoom_16 (by decide) ?_
    exact retRz hx hb hr hlk hS dX3_hasRoom_17 (rfl) (show ((0 : Int32).toInt = 1 ∧ 0 ≤ a1.toInt ∧ a1.toInt < (Ft 5).toInt ∧ a1.toInt ≤ 6) ∨ (0 : Int32).toInt = 0 by have kk : (0 : Int32).toInt = 0 := (by decide); omega)
  · have zc1 := nltK rfl (show (0 : Int32).toInt = 0 by decide) c1
    refine lv_iload_n hx hb dX3_hasRoom_4 rfl (lv_at hl 1 rfl) ?_
    refine lv_aload_n hx hb dX3_hasRoom_5 rfl (lv_at hl 0 rfl) ?_
    refine getF (v := .int (Ft 5)) hx hb ht hown hK hP iTX3 0 5 rfl rfl (by decide) fl_RX3_49 rfl dX3_hasRoom_6 ?_
    have zf2 : (0 : Int) ≤ (Ft 5).toInt ∧ (Ft 5).toInt ≤ 7 := hIt.1 5
    refine lv_icmp_ge (tgt := 16) hx hb dX3_hasRoom_9 (by decide) (fun c3 => ?_) (fun c3 => ?_)
    · have zc3 := leK rfl rfl c3
      refine lv_iconst (v := 0) hx hb dX3_hasRoom_16 (by decide) ?_
      exact retRz hx hb hr hlk hS dX3_hasRoom_17 (rfl) (show ((0 : Int32).toInt = 1 ∧ 0 ≤ a1.toInt ∧ a1.toInt < (Ft 5).toInt ∧ a1.toInt ≤ 6) ∨ (0 : Int32).toInt = 0 by have kk : (0 : Int32).toInt = 0 := (by decide); omega)
    · have zc3 := nleK rfl rfl c3
      refine lv_iconst (v := 1) hx hb dX3_hasRoom_12 (by decide) ?_
      refine lv_goto (tgt := 17) hx hb dX3_hasRoom_13 (by decide) ?_
      exact retRz hx hb hr hlk hS dX3_hasRoom_17 (rfl) (show ((1 : Int32).toInt = 1 ∧ 0 ≤ a1.toInt ∧ a1.toInt < (Ft 5).toInt ∧ a1.toInt ≤ 6) ∨ (1 : Int32).toInt = 0 by have kk : (1 : Int32).toInt = 1 := (by decide); omega)

set_option maxRecDepth 100000 in
set_option maxHeartbeats 16000000 in
theorem sX3_isDoor (l : Launch) (G : va_G) (cs : Nat → ClassId) (adt : Nat) (qt : Nat → Nat) (Ft : Nat → Int32) (At : Nat → Nat → Int32) (Bt : Nat → Nat → Int64) (Dt : Int64) (hIt : IX3 Ft At) (a1 : Int32) (a2 : Int32) : ∀ sz : Nat, Met l yX3_isDoor (wk yX3_isDoor cX3_isDoor 3 (some .boolean)) (rmk 1 0 0) (PreP G (TY cs) [.ref adt, .int a1, .int a2] (uX3 cs adt qt Ft At Bt Dt) sz) (QRi (fun r : Int32 => (0 : Int) ≤ r.toInt ∧ r.toInt ≤ 1) sz) 0 0 (fun q => sz ≤ q) := by
  refine mkP (Qc := QRi (fun r : Int32 => (0 : Int) ≤ r.toInt ∧ r.toInt ≤ 1)) (by decide) (by simp [lg_sl, Value.category]) ?_
  intro p e s m args below meth c ls hx hb hml hr hlk hown ht hK hP hS hl
  have hl : lv_has ls 3 [(0, .ref adt), (1, .int a1), (2, .int a2)] := hl
  refine lv_aload_n hx hb dX3_isDoor_0 rfl (lv_at hl 0 rfl) ?_
  refine lv_iload_n hx hb dX3_isDoor_1 rfl (lv_at hl 1 rfl) ?_
  refine behR (runVP (As := [.int a1]) (rest := []) ⟨hx, hb, hml, hown, ht⟩ (sX3_hasRoom l G cs adt qt Ft At Bt Dt hIt a1 ) okV_RX3_61 ⟨by decide, by decide⟩ hK hP [0, 1, 2, 3, 4, 5, 6, 7] rfl 0 rfl rfl hl.1 rfl (Nat.le_of_ble_eq_true rfl) dX3_isDoor_2 ⟨by decide, by decide⟩) hP hS (fun _ h => h) (fun r1 H locs hr1 hP hS => ?_)
  have hr1 : (r1.toInt = 1 ∧ 0 ≤ a1.toInt ∧ a1.toInt < (Ft 5).toInt ∧ a1.toInt ≤ 6) ∨ r1.toInt = 0 := hr1
  refine lv_if_eq (tgt := 33) hx hb dX3_isDoor_5 (by decide) (fun c2 => ?_) (fun c2 => ?_)
  · have zc2 := eqK rfl (show (0 : Int32).toInt = 0 by decide) c2
    refine lv_iconst (v := 0) hx hb dX3_isDoor_33 (by decide) ?_
    exact retRz hx hb hr hlk hS dX3_isDoor_34 (rfl) (show (0 : Int) ≤ (0 : Int32).toInt ∧ (0 : Int32).toInt ≤ 1 by have kk : (0 : Int32).toInt = 0 := (by decide); omega)
  · have zc2 := neK rfl (show (0 : Int32).toInt = 0 by decide) c2
    refine lv_aload_n hx hb dX3_isDoor_8 rfl (lv_at hl 0 rfl) ?_
    refine lv_iload_n hx hb dX3_isDoor_9 rfl (lv_at hl 2 rfl) ?_
    refine behR (runVP (As := [.int a2]) (rest := []) ⟨hx, hb, hml, hown, ht⟩ (sX3_hasRoom l G cs adt qt Ft At Bt Dt hIt a2 ) okV_RX3_61 ⟨by decide, by decide⟩ hK hP [0, 1, 2, 3, 4, 5, 6, 7] rfl 0 rfl rfl hl.1 rfl (Nat.le_of_ble_eq_true rfl) dX3_isDoor_10 ⟨by decide, by decide⟩) hP hS (fun _ h => h) (fun r3 H locs hr3 hP hS => ?_)
    have hr3 : (r3.toInt = 1 ∧ 0 ≤ a2.toInt ∧ a2.toInt < (Ft 5).toInt ∧ a2.toInt ≤ 6) ∨ r3.toInt = 0 := hr3
    refine lv_if_eq (tgt := 33) hx hb dX3_isDoor_13 (by decide) (fun c4 => ?_) (fun c4 => ?_)
    · have zc4 := eqK rfl (show (0 : Int32).toInt = 0 by decide) c4
      refine lv_iconst (v := 0) hx hb dX3_isDoor_33 (by decide) ?_
      exact retRz hx hb hr hlk hS dX3_isDoor_34 (rfl) (show (0 : Int) ≤ (0 : Int32).toInt ∧ (0 : Int32).toInt ≤ 1 by have kk : (0 : Int32).toInt = 0 := (by decide); omega)
    · have zc4 := neK rfl (show (0 : Int32).toInt = 0 by decide) c4
      refine lv_aload_n hx hb dX3_isDoor_16 rfl (lv_at hl 0 rfl) ?_
      refine getF (v := .ref (qt 10)) hx hb ht hown hK hP iTX3 0 10 rfl rfl (by decide) fl_RX3_21 rfl dX3_isDoor_17 ?_
      refine lv_iload_n hx hb dX3_isDoor_20 rfl (lv_at hl 1 rfl) ?_
      refine va_iald hx hb hK.1 hP 4 0 rfl rfl (inK rfl (by omega) (by decide)) dX3_isDoor_21 ?_
      refine lv_topi (fun v5 ev5 => ?_)
      have zf6 : (0 : Int) ≤ v5.toInt ∧ v5.toInt ≤ 127 := by rw [ev5]; exact (hIt.2 10 _)
      refine lv_iload_n hx hb dX3_isDoor_22 rfl (lv_at hl 2 rfl) ?_
      refine lv_ishr hx hb dX3_isDoor_23 ?_
      refine lv_topi (fun v7 ev7 => ?_)
      refine lv_iconst (v := 1) hx hb dX3_isDoor_24 (by decide) ?_
      refine lv_iand hx hb dX3_isDoor_25 ?_
      refine lv_topi (fun v8 ev8 => ?_)
      have tv8 : 0 ≤ v8.toInt ∧ v8.toInt ≤ 1 := by rw [ev8]; exact andT 1 (by decide) (by decide) (by decide)
      refine lv_if_eq (tgt := 33) hx hb dX3_isDoor_26 (by decide) (fun c9 => ?_) (fun c9 => ?_)
      · have zc9 := eqK rfl (show (0 : Int32).toInt = 0 by decide) c9
        refine lv_iconst (v := 0) hx hb dX3_isDoor_33 (by decide) ?_
        exact retRz hx hb hr hlk hS dX3_isDoor_34 (rfl) (show (0 : Int) ≤ (0 : Int32).toInt ∧ (0 : Int32).toInt ≤ 1 by have kk : (0 : Int32).toInt = 0 := (by decide); omega)
      · have zc9 := neK rfl (show (0 : Int32).toInt = 0 by decide) c9
        refine lv_iconst (v := 1) hx hb dX3_isDoor_29 (by decide) ?_
        refine lv_goto (tgt := 34) hx hb dX3_isDoor_30 (by decide) ?_
        exact retRz hx hb hr hlk hS dX3_isDoor_34 (rfl) (show (0 : Int) ≤ (1 : Int32).toInt ∧ (1 : Int32).toInt ≤ 1 by have kk : (1 : Int32).toInt = 1 := (by decide); omega)

set_option maxRecDepth 100000 in
set_option maxHeartbeats 16000000 in
theorem sX3_isStep (l : Launch) (G : va_G) (cs : Nat → ClassId) (adt : Nat) (qt : Nat → Nat) (Ft : Nat → Int32) (At : Nat → Nat → Int32) (Bt : Nat → Nat → Int64) (Dt : Int64) (hIt : IX3 Ft At) (a1 : Int32) (a2 : Int32) : ∀ sz : Nat, Met l yX3_isStep (wk yX3_isStep cX3_isStep 3 (some .boolean)) (rmk 2 0 0) (PreP G (TY cs) [.ref adt, .int a1, .int a2] (uX3 cs adt qt Ft At Bt Dt) sz) (QRi (fun r : Int32 => (0 : Int) ≤ r.toInt ∧ r.toInt ≤ 1) sz) 0 0 (fun q => sz ≤ q) := by
  refine mkP (Qc := QRi (fun r : Int32 => (0 : Int) ≤ r.toInt ∧ r.toInt ≤ 1)) (by decide) (by simp [lg_sl, Value.category]) ?_
  intro p e s m args below meth c ls hx hb hml hr hlk hown ht hK hP hS hl
  have hl : lv_has ls 3 [(0, .ref adt), (1, .int a1), (2, .int a2)] := hl
  refine lv_iload_n hx hb dX3_isStep_0 rfl (lv_at hl 1 rfl) ?_
  refine lv_iload_n hx hb dX3_isStep_1 rfl (lv_at hl 2 rfl) ?_
  refine lv_icmp_eq (tgt := 14) hx hb dX3_isStep_2 (by decide) (fun c1 => ?_) (fun c1 => ?_)
  · have zc1 := eqK rfl rfl c1
    refine lv_iconst (v := 1) hx hb dX3_isStep_14 (by decide) ?_
    refine lv_goto (tgt := 19) hx hb dX3_isStep_15 (by decide) ?_
    exact retRz hx hb hr hlk hS dX3_isStep_19 (rfl) (show (0 : Int) ≤ (1 : Int32).toInt ∧ (1 : Int32).toInt ≤ 1 by have kk : (1 : Int32).toInt = 1 := (by decide); omega)
  · have zc1 := neK rfl rfl c1
    refine lv_aload_n hx hb dX3_isStep_5 rfl (lv_at hl 0 rfl) ?_
    refine lv_iload_n hx hb dX3_isStep_6 rfl (lv_at hl 1 rfl) ?_
    refine lv_iload_n hx hb dX3_isStep_7 rfl (lv_at hl 2 rfl) ?_
    refine behR (runVP (As := [.int a1, .int a2]) (rest := []) ⟨hx, hb, hml, hown, ht⟩ (sX3_isDoor l G cs adt qt Ft At Bt Dt hIt a1 a2 ) okV_RX3_65 ⟨by decide, by decide⟩ hK hP [0, 1, 2, 3, 4, 5, 6, 7] rfl 0 rfl rfl hl.1 rfl (Nat.le_of_ble_eq_true rfl) dX3_isStep_8 ⟨by decide, by decide⟩) hP hS (fun _ h => h) (fun r2 H locs hr2 hP hS => ?_)
    have hr2 : (0 : Int) ≤ r2.toInt ∧ r2.toInt ≤ 1 := hr2
    refine lv_if_eq (tgt := 18) hx hb dX3_isStep_11 (by decide) (fun c3 => ?_) (fun c3 => ?_)
    · have zc3 := eqK rfl (show (0 : Int32).toInt = 0 by decide) c3
      refine lv_iconst (v := 0) hx hb dX3_isStep_18 (by decide) ?_
      exact retRz hx hb hr hlk hS dX3_isStep_19 (rfl) (show (0 : Int) ≤ (0 : Int32).toInt ∧ (0 : Int32).toInt ≤ 1 by have kk : (0 : Int32).toInt = 0 := (by decide); omega)
    · have zc3 := neK rfl (show (0 : Int32).toInt = 0 by decide) c3
      refine lv_iconst (v := 1) hx hb dX3_isStep_14 (by decide) ?_
      refine lv_goto (tgt := 19) hx hb dX3_isStep_15 (by decide) ?_
      exact retRz hx hb hr hlk hS dX3_isStep_19 (rfl) (show (0 : Int) ≤ (1 : Int32).toInt ∧ (1 : Int32).toInt ≤ 1 by have kk : (1 : Int32).toInt = 1 := (by decide); omega)

