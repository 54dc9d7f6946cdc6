set_option maxRecDepth 100000 in
set_option maxHeartbeats 16000000 in
theorem sX10_paste_hi (l : Launch) (G : va_G) (cs : Nat → ClassId) (adm : Nat) (qm : Nat → Nat) (Fm : Nat → Int32) (Am : Nat → Nat → Int32) (Bm : Nat → Nat → Int64) (Dm : Int64) (hIm : IX10 Fm Am) (a1 : Int32) (a2 : Int32) (a3 : Int32) (a4 : Int32) (a5 : Int32) (ha1 : (4 : Int) ≤ a1.toInt ∧ a1.toInt ≤ 2147483647) : ∀ sz : Nat, Met l yX10_paste (wk yX10_paste cX10_paste 8 (some .int)) (rmk 1 0 0) (PreP G (TY cs) [.ref adm, .int a1, .int a2, .int a3, .int a4, .int a5] (uX10 cs adm qm Fm Am Bm Dm) sz) (QRi (fun r : Int32 => r.toInt = -2) sz) 0 0 (fun q => sz ≤ q) := by
  refine mkP (Qc := QRi (fun r : Int32 => r.toInt = -2)) (by decide) (by simp [lg_sl, Value.category]) ?_
  intro p e s m args below meth c ls hx hb hml hr hlk hown ht hK hP hS hl
  have hl : lv_has ls 8 [(0, .ref adm), (1, .int a1), (2, .int a2), (3, .int a3), (4, .int a4), (5, .int a5)] := hl
  refine lv_aload_n hx hb dX10_paste_0 rfl (lv_at hl 0 rfl) ?_
  refine lv_iload_n hx hb dX10_paste_1 rfl (lv_at hl 1 rfl) ?_
  refine behR (runVP (As := [.int a1]) (rest := []) ⟨hx, hb, hml, hown, ht⟩ (sX10_isSlot l G cs adm qm Fm Am Bm Dm hIm a1 ) okV_RX10_348 ⟨by decide, by decide⟩ hK hP [0, 1, 2] rfl 0 rfl rfl hl.1 rfl (Nat.le_of_ble_eq_true rfl) dX10_paste_2 ⟨by decide, by decide⟩) hP hS (fun _ h => h) (fun r1 H locs hr1 hP hS => ?_)
  have hr1 : (r1.toInt = 1 ∧ 0 ≤ a1.toInt ∧ a1.toInt ≤ 3) ∨ (r1.toInt = 0 ∧ (a1.toInt < 0 ∨ 3 < a1.toInt)) := hr1
  refine lv_if_eq (tgt := 16) hx hb dX10_paste_5 (by decide) (fun c2 => ?_) (fun c2 => ?_)
  · have zc2 := eqK rfl (show (0 : Int32).toInt = 0 by decide) c2
    refine lv_bipush (v := (-2)) hx hb dX10_paste_16 (by decide) ?_
    exact retRi hx hb hr hlk hS dX10_paste_18 (show (-2 : Int32).toInt = -2 by have kk : (-2 : Int32).toInt = -2 := (by decide); omega)
  · exact False.elim (by have zc2 := neK rfl (show (0 : Int32).toInt = 0 by decide) c2; omega)

set_option maxRecDepth 100000 in
set_option maxHeartbeats 16000000 in
theorem sX10_paste_tohi (l : Launch) (G : va_G) (cs : Nat → ClassId) (adm : Nat) (qm : Nat → Nat) (Fm : Nat → Int32) (Am : Nat → Nat → Int32) (Bm : Nat → Nat → Int64) (Dm : Int64) (hIm : IX10 Fm Am) (a1 : Int32) (a2 : Int32) (a3 : Int32) (a4 : Int32) (a5 : Int32) (ha1 : (0 : Int) ≤ a1.toInt ∧ a1.toInt ≤ 3) (ha3 : (4 : Int) ≤ a3.toInt ∧ a3.toInt ≤ 2147483647) : ∀ sz : Nat, Met l yX10_paste (wk yX10_paste cX10_paste 8 (some .int)) (rmk 1 0 0) (PreP G (TY cs) [.ref adm, .int a1, .int a2, .int a3, .int a4, .int a5] (uX10 cs adm qm Fm Am Bm Dm) sz) (QRi (fun r : Int32 => r.toInt = -2) sz) 0 0 (fun q => sz ≤ q) := by
  refine mkP (Qc := QRi (fun r : Int32 => r.toInt = -2)) (by decide) (by simp [lg_sl, Value.category]) ?_
  intro p e s m args below meth c ls hx hb hml hr hlk hown ht hK hP hS hl
  have hl : lv_has ls 8 [(0, .ref adm), (1, .int a1), (2, .int a2), (3, .int a3), (4, .int a4), (5, .int a5)] := hl
  refine lv_aload_n hx hb dX10_paste_0 rfl (lv_at hl 0 rfl) ?_
  refine lv_iload_n hx hb dX10_paste_1 rfl (lv_at hl 1 rfl) ?_
  refine behR (runVP (As := [.int a1]) (rest := []) ⟨hx, hb, hml, hown, ht⟩ (sX10_isSlot l G cs adm qm Fm Am Bm Dm hIm a1 ) okV_RX10_348 ⟨by decide, by decide⟩ hK hP [0, 1, 2] rfl 0 rfl rfl hl.1 rfl (Nat.le_of_ble_eq_true rfl) dX10_paste_2 ⟨by decide, by decide⟩) hP hS (fun _ h => h) (fun r1 H locs hr1 hP hS => ?_)
  have hr1 : (r1.toInt = 1 ∧ 0 ≤ a1.toInt ∧ a1.toInt ≤ 3) ∨ (r1.toInt = 0 ∧ (a1.toInt < 0 ∨ 3 < a1.toInt)) := hr1
  refine lv_if_eq (tgt := 16) hx hb dX10_paste_5 (by decide) (fun c2 => ?_) (fun c2 => ?_)
  · have zc2 := eqK rfl (show (0 : Int32).toInt = 0 by decide) c2
    refine lv_bipush (v := (-2)) hx hb dX10_paste_16 (by decide) ?_
    exact retRi hx hb hr hlk hS dX10_paste_18 (show (-2 : Int32).toInt = -2 by have kk : (-2 : Int32).toInt = -2 := (by decide); omega)
  · have zc2 := neK rfl (show (0 : Int32).toInt = 0 by decide) c2
    refine lv_aload_n hx hb dX10_paste_8 rfl (lv_at hl 0 rfl) ?_
    refine lv_iload_n hx hb dX10_paste_9 rfl (lv_at hl 3 rfl) ?_
    refine behR (runVP (As := [.int a3]) (rest := []) ⟨hx, hb, hml, hown, ht⟩ (sX10_isSlot l G cs adm qm Fm Am Bm Dm hIm a3 ) okV_RX10_348 ⟨by decide, by decide⟩ hK hP [0, 1, 2] rfl 0 rfl rfl hl.1 rfl (Nat.le_of_ble_eq_true rfl) dX10_paste_10 ⟨by decide, by decide⟩) hP hS (fun _ h => h) (fun r3 H locs hr3 hP hS => ?_)
    have hr3 : (r3.toInt = 1 ∧ 0 ≤ a3.toInt ∧ a3.toInt ≤ 3) ∨ (r3.toInt = 0 ∧ (a3.toInt < 0 ∨ 3 < a3.toInt)) := hr3
    refine lv_if_ne (tgt := 19) hx hb dX10_paste_13 (by decide) (fun c4 => ?_) (fun c4 => ?_)
    · exact False.elim (by have zc4 := neK rfl (show (0 : Int32).toInt = 0 by decide) c4; omega)
    · have zc4 := eqK rfl (show (0 : Int32).toInt = 0 by decide) c4
      refine lv_bipush (v := (-2)) hx hb dX10_paste_16 (by decide) ?_
      exact retRi hx hb hr hlk hS dX10_paste_18 (show (-2 : Int32).toInt = -2 by have kk : (-2 : Int32).toInt = -2 := (by decide); omega)

