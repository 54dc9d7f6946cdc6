set_option maxRecDepth 100000 in
set_option maxHeartbeats 16000000 in
theorem law_8 {p : Program} {l : Launch} {e : Env} {s : State} {m : MethodId} {below : List Frame} {meth : Method} {c : Code} {b L : Nat} {xs : Nat → Int32} {G : va_G} {cs : Nat → ClassId} {h1 : Nat} {Q : Nat → Nat → Nat} {h2 : Nat} {q2 : Nat → Nat} {sd : Nat → Nat × Nat} {i : Int32} : LCase p l e s m below meth c b G cs h1 Q h2 q2 i L xs sd 8 := by
  intro C0 hL hK hQ hQM hi0 hi6 kk F A B D MF MA MD MB H locs ls hX hM hR hP hD hS hl
  obtain ⟨hx, hb, hr, hml, hown, hts, hXs, hbl, hlocks, hgv⟩ := id C0
  have hown : s.vm.findClass RL = some m.cls := hown
  have ht : ∀ w ∈ tb, w.before #[Value.ref b] s = true := fun w h => hts w (List.mem_filter.mp h).1
  have hbA : ¬ (fun q : Nat => s.heap.size ≤ q) b := Nat.not_le.mpr hbl
  have t1 : (i + 1).toInt = i.toInt + 1 := addT rfl (by decide) (by omega)
  obtain ⟨a1, ea1⟩ : ∃ z : Int32, z = xs (i + 1).toNatClampNeg := ⟨_, rfl⟩
  refine lv_tableIn (off := 525) (tgt := 558) hx hb dL_law_33 (by decide) (by decide) (by decide) (by decide) ?_
  refine lv_aload_n hx hb dL_law_558 rfl (lv_at hl 2 rfl) ?_
  refine lv_aload_n hx hb dL_law_559 rfl (lv_at hl 3 rfl) ?_
  refine lv_iload_n hx hb dL_law_560 rfl (lv_at hl 0 rfl) ?_
  refine lv_iconst (v := 1) hx hb dL_law_561 (by decide) ?_
  refine lv_iadd hx hb dL_law_562 ?_
  refine va_sld hx hb hXs hbl hbA hS (inK t1 (by omega) (by omega)) dL_law_563 ?_
  refine W.eq (g2 := F0 m 564 ls [.int a1, .ref h1]) (by rw [← ea1]) ?_
  refine behR (runVP (As := [.int a1]) (rest := []) ⟨hx, hb, hml, hown, ht⟩ (sX10_parts l G cs h1 (Q 0) (F 0) (A 0) (B 0) (D 0) hX.1 (Q 4) (F 4) (A 4) (B 4) (D 4) hX.2.2.2.2.1 (Q 5) (F 5) (A 5) (B 5) (D 5) hX.2.2.2.2.2.1 (Q 6) (F 6) (A 6) (B 6) (D 6) hX.2.2.2.2.2.2.1 a1) okV_RL_49 ⟨(Nat.le_of_ble_eq_true rfl), (Nat.le_of_ble_eq_true rfl)⟩ hK hP [0, 1, 2, 14, 15, 16, 17, 18, 19, 20, 21, 22, 23, 24, 25, 26] rfl 0 rfl rfl hl.1 rfl (Nat.le_of_ble_eq_true rfl) dL_law_564 ⟨(Nat.le_of_ble_eq_true rfl), (Nat.le_of_ble_eq_true rfl)⟩) hP hS (fun _ h => h) (fun r1 H locs hr1 hP hS => ?_)
  refine lv_pop hx hb dL_law_567 rfl ?_
  refine lv_aload_n hx hb dL_law_568 rfl (lv_at hl 1 rfl) ?_
  refine lv_aload_n hx hb dL_law_569 rfl (lv_at hl 3 rfl) ?_
  refine lv_iload_n hx hb dL_law_570 rfl (lv_at hl 0 rfl) ?_
  refine lv_iconst (v := 1) hx hb dL_law_571 (by decide) ?_
  refine lv_iadd hx hb dL_law_572 ?_
  refine va_sld hx hb hXs hbl hbA hS (inK t1 (by omega) (by omega)) dL_law_573 ?_
  refine W.eq (g2 := F0 m 574 ls [.int a1, .ref h2]) (by rw [← ea1]) ?_
  refine behDi (wr := (XLW cs h1 Q F A B D)) (runVD (As := [.int a1]) (rest := []) ⟨hx, hb, hml, hown, ht⟩ (sX11_parts l G cs h2 q2 MF MA MD MB hM.1 a1) okV_RL_52 ⟨(Nat.le_of_ble_eq_true rfl), (Nat.le_of_ble_eq_true rfl)⟩ hK hP hD [101, 102, 103, 104, 105, 106, 107, 108, 109, 110, 111, 112, 113, 114, 115, 116, 117, 118, 119, 120] rfl (by decide +kernel) rfl 101 rfl rfl hl.1 rfl (Nat.le_of_ble_eq_true rfl) dL_law_574 ⟨(Nat.le_of_ble_eq_true rfl), (Nat.le_of_ble_eq_true rfl)⟩) hP hD hS (fun _ h => h) [101, 102, 103, 104, 105, 106, 107, 108, 109, 110, 111, 112, 113, 114, 115, 116, 117, 118, 119, 120] [0, 1, 2, 3, 4, 5, 6, 7, 8, 9, 10, 11, 12, 13, 14, 15, 16, 17, 18, 19, 20, 21, 22, 23, 24, 25, 26, 27, 28, 29, 30, 31, 32, 33, 34, 35, 36, 37, 38, 39, 40, 41, 42, 43, 44, 45, 46, 47, 48, 49, 50, 51, 52, 53, 54, 55, 56, 57, 58, 59, 60, 61, 62, 63, 64, 65, 66, 67, 68, 69, 70, 71, 72, 73, 74, 75, 76, 77, 78, 79, 80, 81, 82, 83, 84, 85, 86, 87, 88, 89, 90, 91, 92, 93, 94, 95, 96, 97, 98, 99, 100] rfl rfl (by decide +kernel) (by decide +kernel) (fun r9 u H locs hu hP hD hS => ?_)
  obtain ⟨x3, x4, g5, g6⟩ := u
  obtain ⟨r2, rfl⟩ : ∃ z, z = r9 := ⟨_, rfl⟩
  have hr2 := hu
  have hP : va_P G vwCl (LW cs h1 Q h2 q2 F A B D (upd (upd MF 17 x3) 18 x4) (vA (vA MA 15 g5) 16 g6) MD MB) H := hP
  have hD : va_D (fun q : Nat => s.heap.size ≤ q) (LW cs h1 Q h2 q2 F A B D (upd (upd MF 17 x3) 18 x4) (vA (vA MA 15 g5) 16 g6) MD MB) := hD
  refine lv_pop hx hb dL_law_577 rfl ?_
  refine lv_goto (tgt := 2156) hx hb dL_law_578 (by decide) ?_
  exact kk F A B D (upd (upd MF 17 x3) 18 x4) (vA (vA MA 15 g5) 16 g6) MD MB H locs ls ⟨hX.1, hX.2.1, hX.2.2.1, hX.2.2.2.1, hX.2.2.2.2.1, hX.2.2.2.2.2.1, hX.2.2.2.2.2.2.1, hX.2.2.2.2.2.2.2.1, hX.2.2.2.2.2.2.2.2.1, hX.2.2.2.2.2.2.2.2.2.1, hX.2.2.2.2.2.2.2.2.2.2.1, hX.2.2.2.2.2.2.2.2.2.2.2.1, hX.2.2.2.2.2.2.2.2.2.2.2.2.1, hX.2.2.2.2.2.2.2.2.2.2.2.2.2.1, hX.2.2.2.2.2.2.2.2.2.2.2.2.2.2.1, hX.2.2.2.2.2.2.2.2.2.2.2.2.2.2.2.1, hX.2.2.2.2.2.2.2.2.2.2.2.2.2.2.2.2.1, hX.2.2.2.2.2.2.2.2.2.2.2.2.2.2.2.2.2.1, hX.2.2.2.2.2.2.2.2.2.2.2.2.2.2.2.2.2.2.1, hX.2.2.2.2.2.2.2.2.2.2.2.2.2.2.2.2.2.2.2.1, hX.2.2.2.2.2.2.2.2.2.2.2.2.2.2.2.2.2.2.2.2.1, hX.2.2.2.2.2.2.2.2.2.2.2.2.2.2.2.2.2.2.2.2.2.1, hX.2.2.2.2.2.2.2.2.2.2.2.2.2.2.2.2.2.2.2.2.2.2.1, hX.2.2.2.2.2.2.2.2.2.2.2.2.2.2.2.2.2.2.2.2.2.2.2.1, hX.2.2.2.2.2.2.2.2.2.2.2.2.2.2.2.2.2.2.2.2.2.2.2.2.1, hX.2.2.2.2.2.2.2.2.2.2.2.2.2.2.2.2.2.2.2.2.2.2.2.2.2.1, hX.2.2.2.2.2.2.2.2.2.2.2.2.2.2.2.2.2.2.2.2.2.2.2.2.2.2⟩ ⟨(IM_arr (k := 16) (IM_arr (k := 15) (IM_put (k := 18) (IM_put (k := 17) hM.1 (i32b _)) (i32b _)) (fun _ => i32b _)) (fun _ => i32b _)), hM.2.1, hM.2.2⟩ hR hP hD hS hl

set_option maxRecDepth 100000 in
set_option maxHeartbeats 16000000 in
theorem law_9 {p : Program} {l : Launch} {e : Env} {s : State} {m : MethodId} {below : List Frame} {meth : Method} {c : Code} {b L : Nat} {xs : Nat → Int32} {G : va_G} {cs : Nat → ClassId} {h1 : Nat} {Q : Nat → Nat → Nat} {h2 : Nat} {q2 : Nat → Nat} {sd : Nat → Nat × Nat} {i : Int32} : LCase p l e s m below meth c b G cs h1 Q h2 q2 i L xs sd 9 := by
  intro C0 hL hK hQ hQM hi0 hi6 kk F A B D MF MA MD MB H locs ls hX hM hR hP hD hS hl
  obtain ⟨hx, hb, hr, hml, hown, hts, hXs, hbl, hlocks, hgv⟩ := id C0
  have hown : s.vm.findClass RL = some m.cls := hown
  have ht : ∀ w ∈ tb, w.before #[Value.ref b] s = true := fun w h => hts w (List.mem_filter.mp h).1
  have hbA : ¬ (fun q : Nat => s.heap.size ≤ q) b := Nat.not_le.mpr hbl
  refine lv_tableIn (off := 548) (tgt := 581) hx hb dL_law_33 (by decide) (by decide) (by decide) (by decide) ?_
  refine lv_aload_n hx hb dL_law_581 rfl (lv_at hl 2 rfl) ?_
  refine behR (runVP (As := []) (rest := []) ⟨hx, hb, hml, hown, ht⟩ (sX10_found l G cs h1 (Q 0) (F 0) (A 0) (B 0) (D 0) hX.1 (Q 4) (F 4) (A 4) (B 4) (D 4) hX.2.2.2.2.1 (Q 5) (F 5) (A 5) (B 5) (D 5) hX.2.2.2.2.2.1 (Q 6) (F 6) (A 6) (B 6) (D 6) hX.2.2.2.2.2.2.1) okV_RL_53 ⟨(Nat.le_of_ble_eq_true rfl), (Nat.le_of_ble_eq_true rfl)⟩ hK hP [0, 1, 2, 14, 15, 16, 17, 18, 19, 20, 21, 22, 23, 24, 25, 26] rfl 0 rfl rfl hl.1 rfl (Nat.le_of_ble_eq_true rfl) dL_law_582 ⟨(Nat.le_of_ble_eq_true rfl), (Nat.le_of_ble_eq_true rfl)⟩) hP hS (fun _ h => h) (fun r1 H locs hr1 hP hS => ?_)
  refine lv_pop hx hb dL_law_585 rfl ?_
  refine lv_aload_n hx hb dL_law_586 rfl (lv_at hl 1 rfl) ?_
  refine behDi (wr := (XLW cs h1 Q F A B D)) (runVD (As := []) (rest := []) ⟨hx, hb, hml, hown, ht⟩ (sX11_found l G cs h2 q2 MF MA MD MB hM.1 ) okV_RL_56 ⟨(Nat.le_of_ble_eq_true rfl), (Nat.le_of_ble_eq_true rfl)⟩ hK hP hD [101, 102, 103, 104, 105, 106, 107, 108, 109, 110, 111, 112, 113, 114, 115, 116, 117, 118, 119, 120] rfl (by decide +kernel) rfl 101 rfl rfl hl.1 rfl (Nat.le_of_ble_eq_true rfl) dL_law_587 ⟨(Nat.le_of_ble_eq_true rfl), (Nat.le_of_ble_eq_true rfl)⟩) hP hD hS (fun _ h => h) [101, 102, 103, 104, 105, 106, 107, 108, 109, 110, 111, 112, 113, 114, 115, 116, 117, 118, 119, 120] [0, 1, 2, 3, 4, 5, 6, 7, 8, 9, 10, 11, 12, 13, 14, 15, 16, 17, 18, 19, 20, 21, 22, 23, 24, 25, 26, 27, 28, 29, 30, 31, 32, 33, 34, 35, 36, 37, 38, 39, 40, 41, 42, 43, 44, 45, 46, 47, 48, 49, 50, 51, 52, 53, 54, 55, 56, 57, 58, 59, 60, 61, 62, 63, 64, 65, 66, 67, 68, 69, 70, 71, 72, 73, 74, 75, 76, 77, 78, 79, 80, 81, 82, 83, 84, 85, 86, 87, 88, 89, 90, 91, 92, 93, 94, 95, 96, 97, 98, 99, 100] rfl rfl (by decide +kernel) (by decide +kernel) (fun r9 u H locs hu hP hD hS => ?_)
  obtain ⟨x3, x4, g5, g6⟩ := u
  obtain ⟨r2, rfl⟩ : ∃ z, z = r9 := ⟨_, rfl⟩
  have hr2 := hu
  have hP : va_P G vwCl (LW cs h1 Q h2 q2 F A B D (upd (upd MF 17 x3) 18 x4) (vA (vA MA 15 g5) 16 g6) MD MB) H := hP
  have hD : va_D (fun q : Nat => s.heap.size ≤ q) (LW cs h1 Q h2 q2 F A B D (upd (upd MF 17 x3) 18 x4) (vA (vA MA 15 g5) 16 g6) MD MB) := hD
  refine lv_pop hx hb dL_law_590 rfl ?_
  refine lv_goto (tgt := 2156) hx hb dL_law_591 (by decide) ?_
  exact kk F A B D (upd (upd MF 17 x3) 18 x4) (vA (vA MA 15 g5) 16 g6) MD MB H locs ls ⟨hX.1, hX.2.1, hX.2.2.1, hX.2.2.2.1, hX.2.2.2.2.1, hX.2.2.2.2.2.1, hX.2.2.2.2.2.2.1, hX.2.2.2.2.2.2.2.1, hX.2.2.2.2.2.2.2.2.1, hX.2.2.2.2.2.2.2.2.2.1, hX.2.2.2.2.2.2.2.2.2.2.1, hX.2.2.2.2.2.2.2.2.2.2.2.1, hX.2.2.2.2.2.2.2.2.2.2.2.2.1, hX.2.2.2.2.2.2.2.2.2.2.2.2.2.1, hX.2.2.2.2.2.2.2.2.2.2.2.2.2.2.1, hX.2.2.2.2.2.2.2.2.2.2.2.2.2.2.2.1, hX.2.2.2.2.2.2.2.2.2.2.2.2.2.2.2.2.1, hX.2.2.2.2.2.2.2.2.2.2.2.2.2.2.2.2.2.1, hX.2.2.2.2.2.2.2.2.2.2.2.2.2.2.2.2.2.2.1, hX.2.2.2.2.2.2.2.2.2.2.2.2.2.2.2.2.2.2.2.1, hX.2.2.2.2.2.2.2.2.2.2.2.2.2.2.2.2.2.2.2.2.1, hX.2.2.2.2.2.2.2.2.2.2.2.2.2.2.2.2.2.2.2.2.2.1, hX.2.2.2.2.2.2.2.2.2.2.2.2.2.2.2.2.2.2.2.2.2.2.1, hX.2.2.2.2.2.2.2.2.2.2.2.2.2.2.2.2.2.2.2.2.2.2.2.1, hX.2.2.2.2.2.2.2.2.2.2.2.2.2.2.2.2.2.2.2.2.2.2.2.2.1, hX.2.2.2.2.2.2.2.2.2.2.2.2.2.2.2.2.2.2.2.2.2.2.2.2.2.1, hX.2.2.2.2.2.2.2.2.2.2.2.2.2.2.2.2.2.2.2.2.2.2.2.2.2.2⟩ ⟨(IM_arr (k := 16) (IM_arr (k := 15) (IM_put (k := 18) (IM_put (k := 17) hM.1 (i32b _)) (i32b _)) (fun _ => i32b _)) (fun _ => i32b _)), hM.2.1, hM.2.2⟩ hR hP hD hS hl

set_option maxRecDepth 100000 in
set_option maxHeartbeats 16000000 in
theorem law_10 {p : Program} {l : Launch} {e : Env} {s : State} {m : MethodId} {below : List Frame} {meth : Method} {c : Code} {b L : Nat} {xs : Nat → Int32} {G : va_G} {cs : Nat → ClassId} {h1 : Nat} {Q : Nat → Nat → Nat} {h2 : Nat} {q2 : Nat → Nat} {sd : Nat → Nat × Nat} {i : Int32} : LCase p l e s m below meth c b G cs h1 Q h2 q2 i L xs sd 10 := by
  intro C0 hL hK hQ hQM hi0 hi6 kk F A B D MF MA MD MB H locs ls hX hM hR hP hD hS hl
  obtain ⟨hx, hb, hr, hml, hown, hts, hXs, hbl, hlocks, hgv⟩ := id C0
  have hown : s.vm.findClass RL = some m.cls := hown
  have ht : ∀ w ∈ tb, w.before #[Value.ref b] s = true := fun w h => hts w (List.mem_filter.mp h).1
  have hbA : ¬ (fun q : Nat => s.heap.size ≤ q) b := Nat.not_le.mpr hbl
  refine lv_tableIn (off := 561) (tgt := 594) hx hb dL_law_33 (by decide) (by decide) (by decide) (by decide) ?_
  refine lv_aload_n hx hb dL_law_594 rfl (lv_at hl 2 rfl) ?_
  refine behR (runVP (As := []) (rest := []) ⟨hx, hb, hml, hown, ht⟩ (sX10_likely l G cs h1 (Q 0) (F 0) (A 0) (B 0) (D 0) hX.1 (Q 4) (F 4) (A 4) (B 4) (D 4) hX.2.2.2.2.1 (Q 5) (F 5) (A 5) (B 5) (D 5) hX.2.2.2.2.2.1 (Q 6) (F 6) (A 6) (B 6) (D 6) hX.2.2.2.2.2.2.1) okV_RL_57 ⟨(Nat.le_of_ble_eq_true rfl), (Nat.le_of_ble_eq_true rfl)⟩ hK hP [0, 1, 2, 14, 15, 16, 17, 18, 19, 20, 21, 22, 23, 24, 25, 26] rfl 0 rfl rfl hl.1 rfl (Nat.le_of_ble_eq_true rfl) dL_law_595 ⟨(Nat.le_of_ble_eq_true rfl), (Nat.le_of_ble_eq_true rfl)⟩) hP hS (fun _ h => h) (fun r1 H locs hr1 hP hS => ?_)
  refine lv_pop hx hb dL_law_598 rfl ?_
  refine lv_aload_n hx hb dL_law_599 rfl (lv_at hl 1 rfl) ?_
  refine behDi (wr := (XLW cs h1 Q F A B D)) (runVD (As := []) (rest := []) ⟨hx, hb, hml, hown, ht⟩ (sX11_likely l G cs h2 q2 MF MA MD MB hM.1 ) okV_RL_60 ⟨(Nat.le_of_ble_eq_true rfl), (Nat.le_of_ble_eq_true rfl)⟩ hK hP hD [101, 102, 103, 104, 105, 106, 107, 108, 109, 110, 111, 112, 113, 114, 115, 116, 117, 118, 119, 120] rfl (by decide +kernel) rfl 101 rfl rfl hl.1 rfl (Nat.le_of_ble_eq_true rfl) dL_law_600 ⟨(Nat.le_of_ble_eq_true rfl), (Nat.le_of_ble_eq_true rfl)⟩) hP hD hS (fun _ h => h) [101, 102, 103, 104, 105, 106, 107, 108, 109, 110, 111, 112, 113, 114, 115, 116, 117, 118, 119, 120] [0, 1, 2, 3, 4, 5, 6, 7, 8, 9, 10, 11, 12, 13, 14, 15, 16, 17, 18, 19, 20, 21, 22, 23, 24, 25, 26, 27, 28, 29, 30, 31, 32, 33, 34, 35, 36, 37, 38, 39, 40, 41, 42, 43, 44, 45, 46, 47, 48, 49, 50, 51, 52, 53, 54, 55, 56, 57, 58, 59, 60, 61, 62, 63, 64, 65, 66, 67, 68, 69, 70, 71, 72, 73, 74, 75, 76, 77, 78, 79, 80, 81, 82, 83, 84, 85, 86, 87, 88, 89, 90, 91, 92, 93, 94, 95, 96, 97, 98, 99, 100] rfl rfl (by decide +kernel) (by decide +kernel) (fun r9 u H locs hu hP hD hS => ?_)
  obtain ⟨x3, x4, g5, g6⟩ := u
  obtain ⟨r2, rfl⟩ : ∃ z, z = r9 := ⟨_, rfl⟩
  have hr2 := hu
  have hP : va_P G vwCl (LW cs h1 Q h2 q2 F A B D (upd (upd MF 17 x3) 18 x4) (vA (vA MA 15 g5) 16 g6) MD MB) H := hP
  have hD : va_D (fun q : Nat => s.heap.size ≤ q) (LW cs h1 Q h2 q2 F A B D (upd (upd MF 17 x3) 18 x4) (vA (vA MA 15 g5) 16 g6) MD MB) := hD
  refine lv_pop hx hb dL_law_603 rfl ?_
  refine lv_goto (tgt := 2156) hx hb dL_law_604 (by decide) ?_
  exact kk F A B D (upd (upd MF 17 x3) 18 x4) (vA (vA MA 15 g5) 16 g6) MD MB H locs ls ⟨hX.1, hX.2.1, hX.2.2.1, hX.2.2.2.1, hX.2.2.2.2.1, hX.2.2.2.2.2.1, hX.2.2.2.2.2.2.1, hX.2.2.2.2.2.2.2.1, hX.2.2.2.2.2.2.2.2.1, hX.2.2.2.2.2.2.2.2.2.1, hX.2.2.2.2.2.2.2.2.2.2.1, hX.2.2.2.2.2.2.2.2.2.2.2.1, hX.2.2.2.2.2.2.2.2.2.2.2.2.1, hX.2.2.2.2.2.2.2.2.2.2.2.2.2.1, hX.2.2.2.2.2.2.2.2.2.2.2.2.2.2.1, hX.2.2.2.2.2.2.2.2.2.2.2.2.2.2.2.1, hX.2.2.2.2.2.2.2.2.2.2.2.2.2.2.2.2.1, hX.2.2.2.2.2.2.2.2.2.2.2.2.2.2.2.2.2.1, hX.2.2.2.2.2.2.2.2.2.2.2.2.2.2.2.2.2.2.1, hX.2.2.2.2.2.2.2.2.2.2.2.2.2.2.2.2.2.2.2.1, hX.2.2.2.2.2.2.2.2.2.2.2.2.2.2.2.2.2.2.2.2.1, hX.2.2.2.2.2.2.2.2.2.2.2.2.2.2.2.2.2.2.2.2.2.1, hX.2.2.2.2.2.2.2.2.2.2.2.2.2.2.2.2.2.2.2.2.2.2.1, hX.2.2.2.2.2.2.2.2.2.2.2.2.2.2.2.2.2.2.2.2.2.2.2.1, hX.2.2.2.2.2.2.2.2.2.2.2.2.2.2.2.2.2.2.2.2.2.2.2.2.1, hX.2.2.2.2.2.2.2.2.2.2.2.2.2.2.2.2.2.2.2.2.2.2.2.2.2.1, hX.2.2.2.2.2.2.2.2.2.2.2.2.2.2.2.2.2.2.2.2.2.2.2.2.2.2⟩ ⟨(IM_arr (k := 16) (IM_arr (k := 15) (IM_put (k := 18) (IM_put (k := 17) hM.1 (i32b _)) (i32b _)) (fun _ => i32b _)) (fun _ => i32b _)), hM.2.1, hM.2.2⟩ hR hP hD hS hl

set_option maxRecDepth 100000 in
set_option maxHeartbeats 16000000 in
theorem law_11 {p : Program} {l : Launch} {e : Env} {s : State} {m : MethodId} {below : List Frame} {meth : Method} {c : Code} {b L : Nat} {xs : Nat → Int32} {G : va_G} {cs : Nat → ClassId} {h1 : Nat} {Q : Nat → Nat → Nat} {h2 : Nat} {q2 : Nat → Nat} {sd : Nat → Nat × Nat} {i : Int32} : LCase p l e s m below meth c b G cs h1 Q h2 q2 i L xs sd 11 := by
  intro C0 hL hK hQ hQM hi0 hi6 kk F A B D MF MA MD MB H locs ls hX hM hR hP hD hS hl
  obtain ⟨hx, hb, hr, hml, hown, hts, hXs, hbl, hlocks, hgv⟩ := id C0
  have hown : s.vm.findClass RL = some m.cls := hown
  have ht : ∀ w ∈ tb, w.before #[Value.ref b] s = true := fun w h => hts w (List.mem_filter.mp h).1
  have hbA : ¬ (fun q : Nat => s.heap.size ≤ q) b := Nat.not_le.mpr hbl
  refine lv_tableIn (off := 574) (tgt := 607) hx hb dL_law_33 (by decide) (by decide) (by decide) (by decide) ?_
  refine lv_aload_n hx hb dL_law_607 rfl (lv_at hl 2 rfl) ?_
  refine behR (runVP (As := []) (rest := []) ⟨hx, hb, hml, hown, ht⟩ (sX10_here l G cs h1 (Q 0) (F 0) (A 0) (B 0) (D 0) hX.1 (Q 4) (F 4) (A 4) (B 4) (D 4) hX.2.2.2.2.1 (Q 5) (F 5) (A 5) (B 5) (D 5) hX.2.2.2.2.2.1 (Q 6) (F 6) (A 6) (B 6) (D 6) hX.2.2.2.2.2.2.1) okV_RL_61 ⟨(Nat.le_of_ble_eq_true rfl), (Nat.le_of_ble_eq_true rfl)⟩ hK hP [0, 1, 2, 14, 15, 16, 17, 18, 19, 20, 21, 22, 23, 24, 25, 26] rfl 0 rfl rfl hl.1 rfl (Nat.le_of_ble_eq_true rfl) dL_law_608 ⟨(Nat.le_of_ble_eq_true rfl), (Nat.le_of_ble_eq_true rfl)⟩) hP hS (fun _ h => h) (fun r1 H locs hr1 hP hS => ?_)
  refine lv_pop hx hb dL_law_611 rfl ?_
  refine lv_aload_n hx hb dL_law_612 rfl (lv_at hl 1 rfl) ?_
  refine behDi (wr := (XLW cs h1 Q F A B D)) (runVD (As := []) (rest := []) ⟨hx, hb, hml, hown, ht⟩ (sX11_here l G cs h2 q2 MF MA MD MB hM.1 ) okV_RL_64 ⟨(Nat.le_of_ble_eq_true rfl), (Nat.le_of_ble_eq_true rfl)⟩ hK hP hD [101, 102, 103, 104, 105, 106, 107, 108, 109, 110, 111, 112, 113, 114, 115, 116, 117, 118, 119, 120] rfl (by decide +kernel) rfl 101 rfl rfl hl.1 rfl (Nat.le_of_ble_eq_true rfl) dL_law_613 ⟨(Nat.le_of_ble_eq_true rfl), (Nat.le_of_ble_eq_true rfl)⟩) hP hD hS (fun _ h => h) [101, 102, 103, 104, 105, 106, 107, 108, 109, 110, 111, 112, 113, 114, 115, 116, 117, 118, 119, 120] [0, 1, 2, 3, 4, 5, 6, 7, 8, 9, 10, 11, 12, 13, 14, 15, 16, 17, 18, 19, 20, 21, 22, 23, 24, 25, 26, 27, 28, 29, 30, 31, 32, 33, 34, 35, 36, 37, 38, 39, 40, 41, 42, 43, 44, 45, 46, 47, 48, 49, 50, 51, 52, 53, 54, 55, 56, 57, 58, 59, 60, 61, 62, 63, 64, 65, 66, 67, 68, 69, 70, 71, 72, 73, 74, 75, 76, 77, 78, 79, 80, 81, 82, 83, 84, 85, 86, 87, 88, 89, 90, 91, 92, 93, 94, 95, 96, 97, 98, 99, 100] rfl rfl (by decide +kernel) (by decide +kernel) (fun r9 u H locs hu hP hD hS => ?_)
  obtain ⟨x3, x4, g5, g6⟩ := u
  obtain ⟨r2, rfl⟩ : ∃ z, z = r9 := ⟨_, rfl⟩
  have hr2 := hu
  have hP : va_P G vwCl (LW cs h1 Q h2 q2 F A B D (upd (upd MF 17 x3) 18 x4) (vA (vA MA 15 g5) 16 g6) MD MB) H := hP
  have hD : va_D (fun q : Nat => s.heap.size ≤ q) (LW cs h1 Q h2 q2 F A B D (upd (upd MF 17 x3) 18 x4) (vA (vA MA 15 g5) 16 g6) MD MB) := hD
  refine lv_pop hx hb dL_law_616 rfl ?_
  refine lv_goto (tgt := 2156) hx hb dL_law_617 (by decide) ?_
  exact kk F A B D (upd (upd MF 17 x3) 18 x4) (vA (vA MA 15 g5) 16 g6) MD MB H locs ls ⟨hX.1, hX.2.1, hX.2.2.1, hX.2.2.2.1, hX.2.2.2.2.1, hX.2.2.2.2.2.1, hX.2.2.2.2.2.2.1, hX.2.2.2.2.2.2.2.1, hX.2.2.2.2.2.2.2.2.1, hX.2.2.2.2.2.2.2.2.2.1, hX.2.2.2.2.2.2.2.2.2.2.1, hX.2.2.2.2.2.2.2.2.2.2.2.1, hX.2.2.2.2.2.2.2.2.2.2.2.2.1, hX.2.2.2.2.2.2.2.2.2.2.2.2.2.1, hX.2.2.2.2.2.2.2.2.2.2.2.2.2.2.1, hX.2.2.2.2.2.2.2.2.2.2.2.2.2.2.2.1, hX.2.2.2.2.2.2.2.2.2.2.2.2.2.2.2.2.1, hX.2.2.2.2.2.2.2.2.2.2.2.2.2.2.2.2.2.1, hX.2.2.2.2.2.2.2.2.2.2.2.2.2.2.2.2.2.2.1, hX.2.2.2.2.2.2.2.2.2.2.2.2.2.2.2.2.2.2.2.1, hX.2.2.2.2.2.2.2.2.2.2.2.2.2.2.2.2.2.2.2.2.1, hX.2.2.2.2.2.2.2.2.2.2.2.2.2.2.2.2.2.2.2.2.2.1, hX.2.2.2.2.2.2.2.2.2.2.2.2.2.2.2.2.2.2.2.2.2.2.1, hX.2.2.2.2.2.2.2.2.2.2.2.2.2.2.2.2.2.2.2.2.2.2.2.1, hX.2.2.2.2.2.2.2.2.2.2.2.2.2.2.2.2.2.2.2.2.2.2.2.2.1, hX.2.2.2.2.2.2.2.2.2.2.2.2.2.2.2.2.2.2.2.2.2.2.2.2.2.1, hX.2.2.2.2.2.2.2.2.2.2.2.2.2.2.2.2.2.2.2.2.2.2.2.2.2.2⟩ ⟨(IM_arr (k := 16) (IM_arr (k := 15) (IM_put (k := 18) (IM_put (k := 17) hM.1 (i32b _)) (i32b _)) (fun _ => i32b _)) (fun _ => i32b _)), hM.2.1, hM.2.2⟩ hR hP hD hS hl

