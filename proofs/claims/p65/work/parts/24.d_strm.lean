set_option maxRecDepth 100000 in
set_option maxHeartbeats 4000000 in
theorem sJ0_coder_7d493 (l : Launch) (G : va_G) (cs : Nat → ClassId) (L : List (String × Nat × String × Nat)) (sd : Nat → Nat × Nat) (i : Nat) (hi : i < 15) : ∀ sz : Nat, Met l yJ0_coder_7d493 (wk yJ0_coder_7d493 cJ0_coder_7d493 1 (some .byte)) (rmk 0 0 0) (PrePS L sd G (TY cs) [.ref (sd i).1] [] sz) (QRi (fun r : Int32 => r = 0) sz) 0 0 (fun q => sz ≤ q) := by
  refine mkPS (Qc := QRi (fun r : Int32 => r = 0)) (by decide) (by simp [lg_sl, Value.category]) ?_
  intro p e s m args below meth c ls hx hb hml hr hlk hown ht hK hP hS hQ hl
  have hl : lv_has ls 1 [(0, .ref (sd i).1)] := hl
  refine va_gets hx hb hQ.2.1 hS hown (ht _ flS_38) (fun _ h9 => h9) dJ0_coder_7d493_0 ?_
  refine lv_if_eq (tgt := 13) hx hb dJ0_coder_7d493_3 (by decide) (fun c9 => False.elim (by revert c9; decide)) (fun c9 => ?_)
  refine lv_aload_n hx hb dJ0_coder_7d493_6 rfl (lv_at hl 0 rfl) ?_
  refine vk_getf hx hb (hQ.1.1 i hi).2.1 hS hown (ht _ flS_15) (fun _ h9 => h9) dJ0_coder_7d493_7 ?_
  refine lv_goto (tgt := 14) hx hb dJ0_coder_7d493_10 (by decide) ?_
  exact retRn hx hb hr hlk hS dJ0_coder_7d493_14 rfl rfl

set_option maxRecDepth 100000 in
set_option maxHeartbeats 4000000 in
theorem sJ0_isLatin1_aae02 (l : Launch) (G : va_G) (cs : Nat → ClassId) (L : List (String × Nat × String × Nat)) (sd : Nat → Nat × Nat) (i : Nat) (hi : i < 15) : ∀ sz : Nat, Met l yJ0_isLatin1_aae02 (wk yJ0_isLatin1_aae02 cJ0_isLatin1_aae02 1 (some .boolean)) (rmk 0 0 0) (PrePS L sd G (TY cs) [.ref (sd i).1] [] sz) (QRi (fun r : Int32 => r = 1) sz) 0 0 (fun q => sz ≤ q) := by
  refine mkPS (Qc := QRi (fun r : Int32 => r = 1)) (by decide) (by simp [lg_sl, Value.category]) ?_
  intro p e s m args below meth c ls hx hb hml hr hlk hown ht hK hP hS hQ hl
  have hl : lv_has ls 1 [(0, .ref (sd i).1)] := hl
  refine va_gets hx hb hQ.2.1 hS hown (ht _ flS_38) (fun _ h9 => h9) dJ0_isLatin1_aae02_0 ?_
  refine lv_if_eq (tgt := 17) hx hb dJ0_isLatin1_aae02_3 (by decide) (fun c9 => False.elim (by revert c9; decide)) (fun c9 => ?_)
  refine lv_aload_n hx hb dJ0_isLatin1_aae02_6 rfl (lv_at hl 0 rfl) ?_
  refine vk_getf hx hb (hQ.1.1 i hi).2.1 hS hown (ht _ flS_15) (fun _ h9 => h9) dJ0_isLatin1_aae02_7 ?_
  refine lv_if_ne (tgt := 17) hx hb dJ0_isLatin1_aae02_10 (by decide) (fun c9 => False.elim (by revert c9; decide)) (fun c9 => ?_)
  refine lv_iconst (v := 1) hx hb dJ0_isLatin1_aae02_13 (by decide) ?_
  refine lv_goto (tgt := 18) hx hb dJ0_isLatin1_aae02_14 (by decide) ?_
  exact retRn hx hb hr hlk hS dJ0_isLatin1_aae02_18 rfl rfl

set_option maxRecDepth 100000 in
set_option maxHeartbeats 4000000 in
theorem sJ0_length_8abf5 (l : Launch) (G : va_G) (cs : Nat → ClassId) (L : List (String × Nat × String × Nat)) (sd : Nat → Nat × Nat) (i : Nat) (hi : i < 15) : ∀ sz : Nat, Met l yJ0_length_8abf5 (wk yJ0_length_8abf5 cJ0_length_8abf5 1 (some .int)) (rmk 1 0 0) (PrePS L sd G (TY cs) [.ref (sd i).1] [] sz) (QRi (fun r : Int32 => r.toInt = ((lenS.getD i 0 : Nat) : Int)) sz) 0 0 (fun q => sz ≤ q) := by
  refine mkPS (Qc := QRi (fun r : Int32 => r.toInt = ((lenS.getD i 0 : Nat) : Int))) (by decide) (by simp [lg_sl, Value.category]) ?_
  intro p e s m args below meth c ls hx hb hml hr hlk hown ht hK hP hS hQ hl
  have hl : lv_has ls 1 [(0, .ref (sd i).1)] := hl
  refine lv_aload_n hx hb dJ0_length_8abf5_0 rfl (lv_at hl 0 rfl) ?_
  refine vk_getf hx hb (hQ.1.1 i hi).2.2.1 hS hown (ht _ flS_9) (fun _ h9 => h9) dJ0_length_8abf5_1 ?_
  refine va_tlen hx hb (hQ.1.1 i hi).2.2.2 hS rfl dJ0_length_8abf5_4 ?_
  refine lv_aload_n hx hb dJ0_length_8abf5_5 rfl (lv_at hl 0 rfl) ?_
  refine behR (runVS (As := []) (rest := [.int (Int32.ofNat (lenS.getD i 0))]) ⟨hx, hb, hml, hown, ht⟩ (sJ0_coder_7d493 l G cs L sd i hi) okV_RJ0_335 ⟨by decide, by decide⟩ hK hQ hS (fun q h9 => h9) hi hl.1 rfl (Nat.le_of_ble_eq_true rfl) dJ0_length_8abf5_6 ⟨by decide, by decide⟩) hP hS (fun q h9 => h9) (fun r H locs hr9 hP hS => ?_)
  obtain rfl : r = 0 := hr9
  refine lv_ishr hx hb dJ0_length_8abf5_9 ?_
  exact retRi hx hb hr hlk hS dJ0_length_8abf5_10 (lenSh ⟨i, hi⟩)

set_option maxRecDepth 100000 in
set_option maxHeartbeats 4000000 in
theorem sJ3_checkIndex_8e157n (l : Launch) (G : va_G) (cs : Nat → ClassId) (L : List (String × Nat × String × Nat)) (sd : Nat → Nat × Nat) (a b : Int32) (h0 : 0 ≤ a.toInt) (h1 : a.toInt < b.toInt) : ∀ sz : Nat, Met l yJ3_checkIndex_8e157 (wk yJ3_checkIndex_8e157 cJ3_checkIndex_8e157 3 (some .int)) (rmk 0 0 0) (PrePS L sd G (TY cs) [.int a, .int b, .null] [] sz) (QRi (fun r : Int32 => True) sz) 0 0 (fun q => sz ≤ q) := by
  refine mkPS (Qc := QRi (fun r : Int32 => True)) (by decide) (by simp [lg_sl, Value.category]) ?_
  intro p e s m args below meth c ls hx hb hml hr hlk hown ht hK hP hS hQ hl
  have hl : lv_has ls 3 [(0, .int a), (1, .int b), (2, .null)] := hl
  refine lv_iload_n hx hb dJ3_checkIndex_8e157_0 rfl (lv_at hl 0 rfl) ?_
  refine lv_if_lt (tgt := 9) hx hb dJ3_checkIndex_8e157_1 (by decide) (fun c9 => False.elim (by have zz := ltK rfl (show (0 : Int32).toInt = 0 by decide) c9; omega)) (fun c9 => ?_)
  refine lv_iload_n hx hb dJ3_checkIndex_8e157_4 rfl (lv_at hl 0 rfl) ?_
  refine lv_iload_n hx hb dJ3_checkIndex_8e157_5 rfl (lv_at hl 1 rfl) ?_
  refine lv_icmp_lt (tgt := 16) hx hb dJ3_checkIndex_8e157_6 (by decide) (fun c8 => ?_) (fun c8 => False.elim (by have zz := nltK rfl rfl c8; omega))
  refine lv_iload_n hx hb dJ3_checkIndex_8e157_16 rfl (lv_at hl 0 rfl) ?_
  exact retRi hx hb hr hlk hS dJ3_checkIndex_8e157_17 trivial

set_option maxRecDepth 100000 in
set_option maxHeartbeats 4000000 in
theorem sJ3_checkIndex_8e157r (l : Launch) (G : va_G) (cs : Nat → ClassId) (L : List (String × Nat × String × Nat)) (sd : Nat → Nat × Nat) (t : Nat) (a b : Int32) (h0 : 0 ≤ a.toInt) (h1 : a.toInt < b.toInt) : ∀ sz : Nat, Met l yJ3_checkIndex_8e157 (wk yJ3_checkIndex_8e157 cJ3_checkIndex_8e157 3 (some .int)) (rmk 0 0 0) (PrePS L sd G (TY cs) [.int a, .int b, .ref t] [] sz) (QRi (fun r : Int32 => True) sz) 0 0 (fun q => sz ≤ q) := by
  refine mkPS (Qc := QRi (fun r : Int32 => True)) (by decide) (by simp [lg_sl, Value.category]) ?_
  intro p e s m args below meth c ls hx hb hml hr hlk hown ht hK hP hS hQ hl
  have hl : lv_has ls 3 [(0, .int a), (1, .int b), (2, .ref t)] := hl
  refine lv_iload_n hx hb dJ3_checkIndex_8e157_0 rfl (lv_at hl 0 rfl) ?_
  refine lv_if_lt (tgt := 9) hx hb dJ3_checkIndex_8e157_1 (by decide) (fun c9 => False.elim (by have zz := ltK rfl (show (0 : Int32).toInt = 0 by decide) c9; omega)) (fun c9 => ?_)
  refine lv_iload_n hx hb dJ3_checkIndex_8e157_4 rfl (lv_at hl 0 rfl) ?_
  refine lv_iload_n hx hb dJ3_checkIndex_8e157_5 rfl (lv_at hl 1 rfl) ?_
  refine lv_icmp_lt (tgt := 16) hx hb dJ3_checkIndex_8e157_6 (by decide) (fun c8 => ?_) (fun c8 => False.elim (by have zz := nltK rfl rfl c8; omega))
  refine lv_iload_n hx hb dJ3_checkIndex_8e157_16 rfl (lv_at hl 0 rfl) ?_
  exact retRi hx hb hr hlk hS dJ3_checkIndex_8e157_17 trivial

set_option maxRecDepth 100000 in
set_option maxHeartbeats 4000000 in
theorem sJ0_checkIndex_df160 (l : Launch) (G : va_G) (cs : Nat → ClassId) (L : List (String × Nat × String × Nat)) (sd : Nat → Nat × Nat) (a b : Int32) (h0 : 0 ≤ a.toInt) (h1 : a.toInt < b.toInt) : ∀ sz : Nat, Met l yJ0_checkIndex_df160 (wk yJ0_checkIndex_df160 cJ0_checkIndex_df160 2 none) (rmk 1 0 0) (PrePS L sd G (TY cs) [.int a, .int b] [] sz) (QRv sz) 0 0 (fun q => sz ≤ q) := by
  refine mkPS (Qc := QRv) (by decide) (by simp [lg_sl, Value.category]) ?_
  intro p e s m args below meth c ls hx hb hml hr hlk hown ht hK hP hS hQ hl
  have hl : lv_has ls 2 [(0, .int a), (1, .int b)] := hl
  refine lv_iload_n hx hb dJ0_checkIndex_df160_0 rfl (lv_at hl 0 rfl) ?_
  refine lv_iload_n hx hb dJ0_checkIndex_df160_1 rfl (lv_at hl 1 rfl) ?_
  rcases hQ.2.2.1 with hz | ⟨t, hz⟩
  · refine va_gets hx hb hz hS hown (ht _ flS_1053) (fun _ h9 => h9) dJ0_checkIndex_df160_2 ?_
    refine behR (runSS (As := [.int a, .int b, .null]) (rest := []) ⟨hx, hb, hml, hown, ht⟩ (sJ3_checkIndex_8e157n l G cs L sd a b h0 h1) okT_RJ0_1059 ⟨by decide, by decide⟩ hK hQ hS (fun q h9 => h9) hl.1 rfl (Nat.le_of_ble_eq_true rfl) dJ0_checkIndex_df160_5 ⟨by decide, by decide⟩) hP hS (fun q h9 => h9) (fun r H locs hr9 hP hS => ?_)
    refine lv_pop hx hb dJ0_checkIndex_df160_8 rfl ?_
    exact retRv hx hb hr hlk hS dJ0_checkIndex_df160_9
  · refine va_gets hx hb hz hS hown (ht _ flS_1053) (fun _ h9 => h9) dJ0_checkIndex_df160_2 ?_
    refine behR (runSS (As := [.int a, .int b, .ref t]) (rest := []) ⟨hx, hb, hml, hown, ht⟩ (sJ3_checkIndex_8e157r l G cs L sd t a b h0 h1) okT_RJ0_1059 ⟨by decide, by decide⟩ hK hQ hS (fun q h9 => h9) hl.1 rfl (Nat.le_of_ble_eq_true rfl) dJ0_checkIndex_df160_5 ⟨by decide, by decide⟩) hP hS (fun q h9 => h9) (fun r H locs hr9 hP hS => ?_)
    refine lv_pop hx hb dJ0_checkIndex_df160_8 rfl ?_
    exact retRv hx hb hr hlk hS dJ0_checkIndex_df160_9

set_option maxRecDepth 100000 in
set_option maxHeartbeats 4000000 in
theorem sJ1_charAt_3b067 (l : Launch) (G : va_G) (cs : Nat → ClassId) (L : List (String × Nat × String × Nat)) (sd : Nat → Nat × Nat) (i : Nat) (hi : i < 15) (a : Int32) (h0 : 0 ≤ a.toInt) (h1 : a.toInt < ((lenS.getD i 0 : Nat) : Int)) : ∀ sz : Nat, Met l yJ1_charAt_3b067 (wk yJ1_charAt_3b067 cJ1_charAt_3b067 2 (some .char)) (rmk 2 0 0) (PrePS L sd G (TY cs) [.ref (sd i).2, .int a] [] sz) (QRi (fun r : Int32 => r = chS i a.toNatClampNeg ∧ 0 ≤ r.toInt ∧ r.toInt ≤ 255) sz) 0 0 (fun q => sz ≤ q) := by
  refine mkPS (Qc := QRi (fun r : Int32 => r = chS i a.toNatClampNeg ∧ 0 ≤ r.toInt ∧ r.toInt ≤ 255)) (by decide) (by simp [lg_sl, Value.category]) ?_
  intro p e s m args below meth c ls hx hb hml hr hlk hown ht hK hP hS hQ hl
  have hl : lv_has ls 2 [(0, .ref (sd i).2), (1, .int a)] := hl
  have hb6 := lenB ⟨i, hi⟩
  have hb7 : lenS.getD i 0 ≤ 6 := hb6.1
  refine lv_iload_n hx hb dJ1_charAt_3b067_0 rfl (lv_at hl 1 rfl) ?_
  refine lv_aload_n hx hb dJ1_charAt_3b067_1 rfl (lv_at hl 0 rfl) ?_
  refine va_tlen hx hb (hQ.1.1 i hi).2.2.2 hS rfl dJ1_charAt_3b067_2 ?_
  refine behRv (runSS (As := [.int a, .int (Int32.ofNat (lenS.getD i 0))]) (rest := []) ⟨hx, hb, hml, hown, ht⟩ (sJ0_checkIndex_df160 l G cs L sd a _ h0 (by rw [lenI ⟨i, hi⟩]; exact h1)) okT_RJ1_9 ⟨by decide, by decide⟩ hK hQ hS (fun q h9 => h9) hl.1 rfl (Nat.le_of_ble_eq_true rfl) dJ1_charAt_3b067_3 ⟨by decide, by decide⟩) hP hS (fun q h9 => h9) (fun H locs hP hS => ?_)
  refine lv_aload_n hx hb dJ1_charAt_3b067_6 rfl (lv_at hl 0 rfl) ?_
  refine lv_iload_n hx hb dJ1_charAt_3b067_7 rfl (lv_at hl 1 rfl) ?_
  refine va_tb hx hb (hQ.1.1 i hi).2.2.2 hS (inK rfl ⟨h0, h1⟩ (by omega)) rfl dJ1_charAt_3b067_8 ?_
  refine lv_sipush (v := 255) hx hb dJ1_charAt_3b067_9 (by decide) ?_
  refine lv_iand hx hb dJ1_charAt_3b067_12 ?_
  refine lv_topi (fun v4 ev4 => ?_)
  have tv4 : 0 ≤ v4.toInt ∧ v4.toInt ≤ 255 := by rw [ev4]; exact andT 8 (by decide) (by decide) (by decide)
  refine lv_i2c hx hb dJ1_charAt_3b067_13 (charN tv4).1 ?_
  exact retRn hx hb hr hlk hS dJ1_charAt_3b067_14 (charN tv4).2 ⟨ev4, tv4⟩

set_option maxRecDepth 100000 in
set_option maxHeartbeats 4000000 in
theorem sJ0_charAt_5068e (l : Launch) (G : va_G) (cs : Nat → ClassId) (L : List (String × Nat × String × Nat)) (sd : Nat → Nat × Nat) (i : Nat) (hi : i < 15) (a : Int32) (h0 : 0 ≤ a.toInt) (h1 : a.toInt < ((lenS.getD i 0 : Nat) : Int)) : ∀ sz : Nat, Met l yJ0_charAt_5068e (wk yJ0_charAt_5068e cJ0_charAt_5068e 2 (some .char)) (rmk 3 0 0) (PrePS L sd G (TY cs) [.ref (sd i).1, .int a] [] sz) (QRi (fun r : Int32 => r = chS i a.toNatClampNeg ∧ 0 ≤ r.toInt ∧ r.toInt ≤ 255) sz) 0 0 (fun q => sz ≤ q) := by
  refine mkPS (Qc := QRi (fun r : Int32 => r = chS i a.toNatClampNeg ∧ 0 ≤ r.toInt ∧ r.toInt ≤ 255)) (by decide) (by simp [lg_sl, Value.category]) ?_
  intro p e s m args below meth c ls hx hb hml hr hlk hown ht hK hP hS hQ hl
  have hl : lv_has ls 2 [(0, .ref (sd i).1), (1, .int a)] := hl
  refine lv_aload_n hx hb dJ0_charAt_5068e_0 rfl (lv_at hl 0 rfl) ?_
  refine behR (runVS (As := []) (rest := []) ⟨hx, hb, hml, hown, ht⟩ (sJ0_isLatin1_aae02 l G cs L sd i hi) okV_RJ0_492 ⟨by decide, by decide⟩ hK hQ hS (fun q h9 => h9) hi hl.1 rfl (Nat.le_of_ble_eq_true rfl) dJ0_charAt_5068e_1 ⟨by decide, by decide⟩) hP hS (fun q h9 => h9) (fun r H locs hr9 hP hS => ?_)
  obtain rfl : r = 1 := hr9
  refine lv_if_eq (tgt := 16) hx hb dJ0_charAt_5068e_4 (by decide) (fun c9 => False.elim (by revert c9; decide)) (fun c9 => ?_)
  refine lv_aload_n hx hb dJ0_charAt_5068e_7 rfl (lv_at hl 0 rfl) ?_
  refine vk_getf hx hb (hQ.1.1 i hi).2.2.1 hS hown (ht _ flS_9) (fun _ h9 => h9) dJ0_charAt_5068e_8 ?_
  refine lv_iload_n hx hb dJ0_charAt_5068e_11 rfl (lv_at hl 1 rfl) ?_
  refine behR (runSS (As := [.ref (sd i).2, .int a]) (rest := []) ⟨hx, hb, hml, hown, ht⟩ (sJ1_charAt_3b067 l G cs L sd i hi a h0 h1) okT_RJ0_495 ⟨by decide, by decide⟩ hK hQ hS (fun q h9 => h9) hl.1 rfl (Nat.le_of_ble_eq_true rfl) dJ0_charAt_5068e_12 ⟨by decide, by decide⟩) hP hS (fun q h9 => h9) (fun r H locs hr9 hP hS => ?_)
  exact retRn hx hb hr hlk hS dJ0_charAt_5068e_15 (charN hr9.2).2 hr9
