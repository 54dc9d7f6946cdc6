theorem spf_n {x : Int32} (h : x < 0) : spf x = -1 := if_neg (fun e => by subst e; revert h; decide)
theorem spf_p {x : Int32} (h : 0 < x) : spf x = -1 := if_neg (fun e => by subst e; revert h; decide)
theorem cse (x : Int32) : x = 0 ∨ x < 0 ∨ 0 < x := by
  by_cases h : x = 0
  · exact Or.inl h
  · by_cases h1 : x < 0
    · exact Or.inr (Or.inl h1)
    · refine Or.inr (Or.inr (Int32.lt_iff_toInt_lt.mpr ?_))
      have z0 := nltT h1
      have z1 := neT h
      have k0 : (0 : Int32).toInt = 0 := (by decide)
      omega
/-- what row() of a SLOT that is such answers -/
def spr (w n : Int32) : Int32 := if w < 0 then -2 else if 3 < w then -2 else if 60 < n then -2 else if n < 0 then -3 else 0
theorem spr_w0 {w n : Int32} (h : w < 0) : spr w n = -2 := if_pos h
theorem spr_w3 {w n : Int32} (h : 3 < w) : spr w n = -2 := by
  unfold spr
  rw [if_pos h]
  split <;> rfl
theorem spr_m60 {w n : Int32} (h0 : ¬ w < 0) (h3 : ¬ 3 < w) (h : 60 < n) : spr w n = -2 := by
  unfold spr
  rw [if_neg h0, if_neg h3, if_pos h]
theorem spr_m0 {w n : Int32} (h0 : ¬ w < 0) (h3 : ¬ 3 < w) (h : n < 0) : spr w n = -3 := by
  unfold spr
  rw [if_neg h0, if_neg h3, if_neg (fun q => by have z0 := ltT q; have z1 := ltT h; have k0 : (0 : Int32).toInt = 0 := (by decide); have k1 : (60 : Int32).toInt = 60 := (by decide); omega), if_pos h]
theorem spr_ok {w n : Int32} (h0 : ¬ w < 0) (h3 : ¬ 3 < w) (h : ¬ n < 0) (h6 : ¬ 60 < n) : spr w n = 0 := by
  unfold spr
  rw [if_neg h0, if_neg h3, if_neg h6, if_neg h]
theorem csr (w n : Int32) : w < 0 ∨ 3 < w ∨ (¬ w < 0 ∧ ¬ 3 < w ∧ 60 < n) ∨ (¬ w < 0 ∧ ¬ 3 < w ∧ n < 0) ∨ (¬ w < 0 ∧ ¬ 3 < w ∧ ¬ n < 0 ∧ ¬ 60 < n) := by
  by_cases h0 : w < 0
  · exact Or.inl h0
  · by_cases h3 : 3 < w
    · exact Or.inr (Or.inl h3)
    · by_cases h6 : 60 < n
      · exact Or.inr (Or.inr (Or.inl ⟨h0, h3, h6⟩))
      · by_cases hn : n < 0
        · exact Or.inr (Or.inr (Or.inr (Or.inl ⟨h0, h3, hn⟩)))
        · exact Or.inr (Or.inr (Or.inr (Or.inr ⟨h0, h3, hn, h6⟩)))
theorem fl_RX9_15 : Cond.fieldLink RX9 15 (TX9 1).1 (TX9 1).2.1 (TX9 1).2.2.1 ∈ tb := tb_t (List.mem_of_getElem? (i := 43) (by decide +kernel)) (by decide +kernel)
theorem fl_RX3_33 : Cond.fieldLink RX3 33 (TX3 0).1 (TX3 0).2.1 (TX3 0).2.2.1 ∈ tb := tb_t (List.mem_of_getElem? (i := 83) (by decide +kernel)) (by decide +kernel)
theorem fl_RX3_37 : Cond.fieldLink RX3 37 (TX3 1).1 (TX3 1).2.1 (TX3 1).2.2.1 ∈ tb := tb_t (List.mem_of_getElem? (i := 85) (by decide +kernel)) (by decide +kernel)
theorem fl_RX3_40 : Cond.fieldLink RX3 40 (TX3 2).1 (TX3 2).2.1 (TX3 2).2.2.1 ∈ tb := tb_t (List.mem_of_getElem? (i := 91) (by decide +kernel)) (by decide +kernel)
theorem fl_RX3_43 : Cond.fieldLink RX3 43 (TX3 3).1 (TX3 3).2.1 (TX3 3).2.2.1 ∈ tb := tb_t (List.mem_of_getElem? (i := 93) (by decide +kernel)) (by decide +kernel)
theorem fl_RX3_46 : Cond.fieldLink RX3 46 (TX3 4).1 (TX3 4).2.1 (TX3 4).2.2.1 ∈ tb := tb_t (List.mem_of_getElem? (i := 96) (by decide +kernel)) (by decide +kernel)
theorem fl_RX3_52 : Cond.fieldLink RX3 52 (TX3 6).1 (TX3 6).2.1 (TX3 6).2.2.1 ∈ tb := tb_t (List.mem_of_getElem? (i := 106) (by decide +kernel)) (by decide +kernel)
theorem fl_RX6_30 : Cond.fieldLink RX6 30 (TX6 1).1 (TX6 1).2.1 (TX6 1).2.2.1 ∈ tb := tb_t (List.mem_of_getElem? (i := 53) (by decide +kernel)) (by decide +kernel)
theorem fl_RX6_165 : Cond.fieldLink RX6 165 (TX9 1).1 (TX9 1).2.1 (TX9 1).2.2.1 ∈ tb := tb_t (List.mem_of_getElem? (i := 44) (by decide +kernel)) (by decide +kernel)
theorem fl_RX6_150 : Cond.fieldLink RX6 150 (TX6 3).1 (TX6 3).2.1 (TX6 3).2.2.1 ∈ tb := tb_t (List.mem_of_getElem? (i := 55) (by decide +kernel)) (by decide +kernel)
theorem fl_RX6_147 : Cond.fieldLink RX6 147 (TX6 4).1 (TX6 4).2.1 (TX6 4).2.2.1 ∈ tb := tb_t (List.mem_of_getElem? (i := 56) (by decide +kernel)) (by decide +kernel)
theorem fl_RX6_36 : Cond.fieldLink RX6 36 (TX6 2).1 (TX6 2).2.1 (TX6 2).2.2.1 ∈ tb := tb_t (List.mem_of_getElem? (i := 54) (by decide +kernel)) (by decide +kernel)
theorem fl_RX6_27 : Cond.fieldLink RX6 27 (TX6 5).1 (TX6 5).2.1 (TX6 5).2.2.1 ∈ tb := tb_t (List.mem_of_getElem? (i := 57) (by decide +kernel)) (by decide +kernel)
theorem fl_RX5_31 : Cond.fieldLink RX5 31 (TX3 5).1 (TX3 5).2.1 (TX3 5).2.2.1 ∈ tb := tb_t (List.mem_of_getElem? (i := 99) (by decide +kernel)) (by decide +kernel)
theorem fl_RX5_41 : Cond.fieldLink RX5 41 (TX5 2).1 (TX5 2).2.1 (TX5 2).2.2.1 ∈ tb := tb_t (List.mem_of_getElem? (i := 195) (by decide +kernel)) (by decide +kernel)
theorem fl_RX5_44 : Cond.fieldLink RX5 44 (TX5 3).1 (TX5 3).2.1 (TX5 3).2.2.1 ∈ tb := tb_t (List.mem_of_getElem? (i := 196) (by decide +kernel)) (by decide +kernel)
theorem fl_RX8_32 : Cond.fieldLink RX8 32 (TX8 2).1 (TX8 2).2.1 (TX8 2).2.2.1 ∈ tb := tb_t (List.mem_of_getElem? (i := 171) (by decide +kernel)) (by decide +kernel)
theorem fl_RX7_15 : Cond.fieldLink RX7 15 (TX7 1).1 (TX7 1).2.1 (TX7 1).2.2.1 ∈ tb := tb_t (List.mem_of_getElem? (i := 292) (by decide +kernel)) (by decide +kernel)
theorem fl_RX7_19 : Cond.fieldLink RX7 19 (TX7 2).1 (TX7 2).2.1 (TX7 2).2.2.1 ∈ tb := tb_t (List.mem_of_getElem? (i := 294) (by decide +kernel)) (by decide +kernel)
theorem fl_RX7_23 : Cond.fieldLink RX7 23 (TX7 3).1 (TX7 3).2.1 (TX7 3).2.2.1 ∈ tb := tb_t (List.mem_of_getElem? (i := 296) (by decide +kernel)) (by decide +kernel)
theorem ki_RX5_24 : Cond.constant RX5 24 1000000 ∈ tb := tb_t (List.mem_of_getElem? (i := 539) (by decide +kernel)) (by decide +kernel)
theorem okV_RX10_90 : okV RX10 RX9 90 yX9_push cX9_push 3 none 1 := ⟨⟨tb_t (List.mem_of_getElem? (i := 349) (by decide +kernel)) (by decide +kernel), tb_t (List.mem_of_getElem? (i := 350) (by decide +kernel)) (by decide +kernel), tb_t (List.mem_of_getElem? (i := 351) (by decide +kernel)) (by decide +kernel), tb_t (List.mem_of_getElem? (i := 3) (by decide +kernel)) (by decide +kernel), tb_t (List.mem_of_getElem? (i := 352) (by decide +kernel)) (by decide +kernel)⟩, by decide +kernel⟩
theorem okV_RX6_22 : okV RX6 RX3 22 yX3_clear cX3_clear 1 none 0 := ⟨⟨tb_t (List.mem_of_getElem? (i := 365) (by decide +kernel)) (by decide +kernel), tb_t (List.mem_of_getElem? (i := 366) (by decide +kernel)) (by decide +kernel), tb_t (List.mem_of_getElem? (i := 367) (by decide +kernel)) (by decide +kernel), tb_t (List.mem_of_getElem? (i := 4) (by decide +kernel)) (by decide +kernel), tb_t (List.mem_of_getElem? (i := 368) (by decide +kernel)) (by decide +kernel)⟩, by decide +kernel⟩
theorem okV_RX6_33 : okV RX6 RX6 33 yX6_advance cX6_advance 1 none 0 := ⟨⟨tb_t (List.mem_of_getElem? (i := 369) (by decide +kernel)) (by decide +kernel), tb_t (List.mem_of_getElem? (i := 371) (by decide +kernel)) (by decide +kernel), tb_s (q := (⟨"CallForBrown$Reader", "advance", "()V"⟩, _)) (List.mem_of_getElem? (i := 0) rfl) (by decide +kernel), tb_t (List.mem_of_getElem? (i := 2) (by decide +kernel)) (by decide +kernel), tb_t (List.mem_of_getElem? (i := 372) (by decide +kernel)) (by decide +kernel)⟩, by decide +kernel⟩
theorem okV_RX5_18 : okV RX5 RX3 18 yX3_allSits cX3_allSits 3 (some .int) 0 := ⟨⟨tb_t (List.mem_of_getElem? (i := 535) (by decide +kernel)) (by decide +kernel), tb_t (List.mem_of_getElem? (i := 536) (by decide +kernel)) (by decide +kernel), tb_t (List.mem_of_getElem? (i := 537) (by decide +kernel)) (by decide +kernel), tb_t (List.mem_of_getElem? (i := 4) (by decide +kernel)) (by decide +kernel), tb_t (List.mem_of_getElem? (i := 538) (by decide +kernel)) (by decide +kernel)⟩, by decide +kernel⟩
theorem okV_RX10_388 : okV RX10 RX5 388 yX5_begin cX5_begin 5 none 1 := ⟨⟨tb_t (List.mem_of_getElem? (i := 531) (by decide +kernel)) (by decide +kernel), tb_t (List.mem_of_getElem? (i := 532) (by decide +kernel)) (by decide +kernel), tb_t (List.mem_of_getElem? (i := 533) (by decide +kernel)) (by decide +kernel), tb_t (List.mem_of_getElem? (i := 6) (by decide +kernel)) (by decide +kernel), tb_t (List.mem_of_getElem? (i := 534) (by decide +kernel)) (by decide +kernel)⟩, by decide +kernel⟩
theorem okV_RX10_94 : okV RX10 RX6 94 yX6_readHouse cX6_readHouse 3 (some .boolean) 1 := ⟨⟨tb_t (List.mem_of_getElem? (i := 361) (by decide +kernel)) (by decide +kernel), tb_t (List.mem_of_getElem? (i := 362) (by decide +kernel)) (by decide +kernel), tb_t (List.mem_of_getElem? (i := 363) (by decide +kernel)) (by decide +kernel), tb_t (List.mem_of_getElem? (i := 2) (by decide +kernel)) (by decide +kernel), tb_t (List.mem_of_getElem? (i := 364) (by decide +kernel)) (by decide +kernel)⟩, by decide +kernel⟩
theorem okV_RX10_101 : okV RX10 RX3 101 yX3_copyFrom cX3_copyFrom 2 none 1 := ⟨⟨tb_t (List.mem_of_getElem? (i := 520) (by decide +kernel)) (by decide +kernel), tb_t (List.mem_of_getElem? (i := 521) (by decide +kernel)) (by decide +kernel), tb_t (List.mem_of_getElem? (i := 522) (by decide +kernel)) (by decide +kernel), tb_t (List.mem_of_getElem? (i := 4) (by decide +kernel)) (by decide +kernel), tb_t (List.mem_of_getElem? (i := 523) (by decide +kernel)) (by decide +kernel)⟩, by decide +kernel⟩
theorem okV_RX10_108 : okV RX10 RX10 108 yX10_replay cX10_replay 2 none 0 := ⟨⟨tb_t (List.mem_of_getElem? (i := 527) (by decide +kernel)) (by decide +kernel), tb_t (List.mem_of_getElem? (i := 529) (by decide +kernel)) (by decide +kernel), tb_s (q := (⟨"CallForBrown", "replay", "()V"⟩, _)) (List.mem_of_getElem? (i := 15) rfl) (by decide +kernel), tb_t (List.mem_of_getElem? (i := 1) (by decide +kernel)) (by decide +kernel), tb_t (List.mem_of_getElem? (i := 530) (by decide +kernel)) (by decide +kernel)⟩, by decide +kernel⟩
theorem okV_RX8_22 : okV RX8 RX3 22 yX3_copyFrom cX3_copyFrom 2 none 1 := ⟨⟨tb_t (List.mem_of_getElem? (i := 1124) (by decide +kernel)) (by decide +kernel), tb_t (List.mem_of_getElem? (i := 521) (by decide +kernel)) (by decide +kernel), tb_t (List.mem_of_getElem? (i := 522) (by decide +kernel)) (by decide +kernel), tb_t (List.mem_of_getElem? (i := 4) (by decide +kernel)) (by decide +kernel), tb_t (List.mem_of_getElem? (i := 523) (by decide +kernel)) (by decide +kernel)⟩, by decide +kernel⟩
theorem okV_RX10_341 : okV RX10 RX8 341 yX8_copyFrom cX8_copyFrom 2 none 1 := ⟨⟨tb_t (List.mem_of_getElem? (i := 1120) (by decide +kernel)) (by decide +kernel), tb_t (List.mem_of_getElem? (i := 1121) (by decide +kernel)) (by decide +kernel), tb_t (List.mem_of_getElem? (i := 1122) (by decide +kernel)) (by decide +kernel), tb_t (List.mem_of_getElem? (i := 5) (by decide +kernel)) (by decide +kernel), tb_t (List.mem_of_getElem? (i := 1123) (by decide +kernel)) (by decide +kernel)⟩, by decide +kernel⟩
theorem okV_RX10_351 : okV RX10 RX7 351 yX7_make cX7_make 3 none 2 := ⟨⟨tb_t (List.mem_of_getElem? (i := 1134) (by decide +kernel)) (by decide +kernel), tb_t (List.mem_of_getElem? (i := 1135) (by decide +kernel)) (by decide +kernel), tb_t (List.mem_of_getElem? (i := 1136) (by decide +kernel)) (by decide +kernel), tb_t (List.mem_of_getElem? (i := 11) (by decide +kernel)) (by decide +kernel), tb_t (List.mem_of_getElem? (i := 1137) (by decide +kernel)) (by decide +kernel)⟩, by decide +kernel⟩
theorem cp_RX3_55 : Cond.methodLink RX3 55 arraycopyName ∈ tb := tb_t (List.mem_of_getElem? (i := 524) (by decide +kernel)) (by decide +kernel)
theorem cp_nat : Cond.native arraycopyName ∈ tb := tb_t (List.mem_of_getElem? (i := 526) (by decide +kernel)) (by decide +kernel)
theorem cp_st : Cond.static arraycopyName ∈ tb := tb_t (List.mem_of_getElem? (i := 525) (by decide +kernel)) (by decide +kernel)
theorem cp_in : Cond.initialized "java/lang/System" ∈ tb := tb_t (List.mem_of_getElem? (i := 17) (by decide +kernel)) (by decide +kernel)
theorem cp_RX8_26 : Cond.methodLink RX8 26 arraycopyName ∈ tb := tb_t (List.mem_of_getElem? (i := 1125) (by decide +kernel)) (by decide +kernel)
theorem okT_RX5_25 : okT RX5 25 yJ7_fill_53178 cJ7_fill_53178 4 none 2 := ⟨⟨tb_t (List.mem_of_getElem? (i := 540) (by decide +kernel)) (by decide +kernel), tb_t (List.mem_of_getElem? (i := 541) (by decide +kernel)) (by decide +kernel), tb_t (List.mem_of_getElem? (i := 18) (by decide +kernel)) (by decide +kernel), tb_t (List.mem_of_getElem? (i := 542) (by decide +kernel)) (by decide +kernel)⟩, by decide +kernel⟩
theorem okT_RX7_26 : okT RX7 26 yJ7_fill_d0a16 cJ7_fill_d0a16 5 none 2 := ⟨⟨tb_t (List.mem_of_getElem? (i := 1138) (by decide +kernel)) (by decide +kernel), tb_t (List.mem_of_getElem? (i := 868) (by decide +kernel)) (by decide +kernel), tb_t (List.mem_of_getElem? (i := 18) (by decide +kernel)) (by decide +kernel), tb_t (List.mem_of_getElem? (i := 869) (by decide +kernel)) (by decide +kernel)⟩, by decide +kernel⟩
