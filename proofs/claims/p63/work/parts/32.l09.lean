set_option maxRecDepth 100000 in
set_option maxHeartbeats 16000000 in
theorem law_36 {p : Program} {l : Launch} {e : Env} {s : State} {m : MethodId} {below : List Frame} {meth : Method} {c : Code} {b L : Nat} {xs : Nat → Int32} {G : va_G} {cs : Nat → ClassId} {h1 : Nat} {Q : Nat → Nat → Nat} {h2 : Nat} {q2 : Nat → Nat} {sd : Nat → Nat × Nat} {i : Int32} : LCase p l e s m below meth c b G cs h1 Q h2 q2 i L xs sd 36 := by
  intro C0 hL hK hQ hQM hi0 hi6 kk F A B D MF MA MD MB H locs ls hX hM hR hP hD hS hl
  obtain ⟨hx, hb, hr, hml, hown, hts, hXs, hbl, hlocks, hgv⟩ := id C0
  have hown : s.vm.findClass RL = some m.cls := hown
  have ht : ∀ w ∈ tb, w.before #[Value.ref b] s = true := fun w h => hts w (List.mem_filter.mp h).1
  have hbA : ¬ (fun q : Nat => s.heap.size ≤ q) b := Nat.not_le.mpr hbl
  have t1 : (i + 1).toInt = i.toInt + 1 := addT rfl (by decide) (by omega)
  obtain ⟨a1, ea1⟩ : ∃ z : Int32, z = xs (i + 1).toNatClampNeg := ⟨_, rfl⟩
  refine lv_tableIn (off := 1199) (tgt := 1232) hx hb dL_law_33 (by decide) (by decide) (by decide) (by decide) ?_
  refine lv_aload_n hx hb dL_law_1232 rfl (lv_at hl 2 rfl) ?_
  refine lv_aload_n hx hb dL_law_1233 rfl (lv_at hl 3 rfl) ?_
  refine lv_iload_n hx hb dL_law_1234 rfl (lv_at hl 0 rfl) ?_
  refine lv_iconst (v := 1) hx hb dL_law_1235 (by decide) ?_
  refine lv_iadd hx hb dL_law_1236 ?_
  refine va_sld hx hb hXs hbl hbA hS (inK t1 (by omega) (by omega)) dL_law_1237 ?_
  refine W.eq (g2 := F0 m 1238 ls [.int a1, .ref h1]) (by rw [← ea1]) ?_
  refine behDi (wr := ((uX6 cs (Q 0 0) (fun _ => Q 0 1) (F 1) (A 1) (B 1) (D 1)) ++ ((uX9 cs (Q 0 1) (Q 2) (F 2) (A 2) (B 2) (D 2)) ++ ((uX3 cs (Q 0 2) (Q 3) (F 3) (A 3) (B 3) (D 3)) ++ ((uX0 cs (Q 0 8) (Q 8) (F 8) (A 8) (B 8) (D 8)) ++ ((uX1 cs (Q 0 9) (Q 9) (F 9) (A 9) (B 9) (D 9)) ++ ((uX4 cs (Q 0 10) (Q 10) (F 10) (A 10) (B 10) (D 10)) ++ ((uX2 cs (Q 0 11) (Q 11) (F 11) (A 11) (B 11) (D 11)) ++ ((uX7 cs (Q 0 20) (Q 12) (F 12) (A 12) (B 12) (D 12)) ++ ((uX7 cs (Q 0 21) (Q 13) (F 13) (A 13) (B 13) (D 13)) ++ ((uX7 cs (Q 0 22) (Q 14) (F 14) (A 14) (B 14) (D 14)) ++ ((uX7 cs (Q 0 23) (Q 15) (F 15) (A 15) (B 15) (D 15)) ++ ((uX8 cs (Q 0 30) (Q 16) (F 16) (A 16) (B 16) (D 16)) ++ ((uX3 cs (Q 16 0) (Q 17) (F 17) (A 17) (B 17) (D 17)) ++ ((uX8 cs (Q 0 31) (Q 18) (F 18) (A 18) (B 18) (D 18)) ++ ((uX3 cs (Q 18 0) (Q 19) (F 19) (A 19) (B 19) (D 19)) ++ ((uX8 cs (Q 0 32) (Q 20) (F 20) (A 20) (B 20) (D 20)) ++ ((uX3 cs (Q 20 0) (Q 21) (F 21) (A 21) (B 21) (D 21)) ++ ((uX5 cs (Q 8 10) (Q 22) (F 22) (A 22) (B 22) (D 22)) ++ ((uX5 cs (Q 8 11) (Q 23) (F 23) (A 23) (B 23) (D 23)) ++ ((uX5 cs (Q 8 12) (Q 24) (F 24) (A 24) (B 24) (D 24)) ++ ((uX5 cs (Q 8 13) (Q 25) (F 25) (A 25) (B 25) (D 25)) ++ ((uX5 cs (Q 8 14) (Q 26) (F 26) (A 26) (B 26) (D 26)) ++ (mS cs h2 q2 MF MA MD MB)))))))))))))))))))))))) (runVD (As := [.int a1]) (rest := []) ⟨hx, hb, hml, hown, ht⟩ (sX10_desk l G cs h1 (Q 0) (F 0) (A 0) (B 0) (D 0) hX.1 (Q 4) (F 4) (A 4) (B 4) (D 4) hX.2.2.2.2.1 (Q 5) (F 5) (A 5) (B 5) (D 5) hX.2.2.2.2.2.1 (Q 6) (F 6) (A 6) (B 6) (D 6) hX.2.2.2.2.2.2.1 (Q 7) (F 7) (A 7) (B 7) (D 7) hX.2.2.2.2.2.2.2.1 a1) okV_RL_162 ⟨(Nat.le_of_ble_eq_true rfl), (Nat.le_of_ble_eq_true rfl)⟩ hK hP hD [0, 1, 2, 14, 15, 16, 17, 18, 19, 20, 21, 22, 23, 24, 25, 26, 27, 28, 29] rfl (by decide +kernel) rfl 0 rfl rfl hl.1 rfl (Nat.le_of_ble_eq_true rfl) dL_law_1238 ⟨(Nat.le_of_ble_eq_true rfl), (Nat.le_of_ble_eq_true rfl)⟩) hP hD hS (fun _ h => h) [0, 1, 2, 14, 15, 16, 17, 18, 19, 20, 21, 22, 23, 24, 25, 26, 27, 28, 29] [3, 4, 5, 6, 7, 8, 9, 10, 11, 12, 13, 30, 31, 32, 33, 34, 35, 36, 37, 38, 39, 40, 41, 42, 43, 44, 45, 46, 47, 48, 49, 50, 51, 52, 53, 54, 55, 56, 57, 58, 59, 60, 61, 62, 63, 64, 65, 66, 67, 68, 69, 70, 71, 72, 73, 74, 75, 76, 77, 78, 79, 80, 81, 82, 83, 84, 85, 86, 87, 88, 89, 90, 91, 92, 93, 94, 95, 96, 97, 98, 99, 100, 101, 102, 103, 104, 105, 106, 107, 108, 109, 110, 111, 112, 113, 114, 115, 116, 117, 118, 119, 120] rfl rfl (by decide +kernel) (by decide +kernel) (fun r9 u H locs hu hP hD hS => ?_)
  obtain ⟨x2, x3, g4, g5⟩ := u
  obtain ⟨r1, rfl⟩ : ∃ z, z = r9 := ⟨_, rfl⟩
  have hr1 := hu
  have hP : va_P G vwCl (LW cs h1 Q h2 q2 (vA F 7 (upd (upd (F 7) 2 x2) 3 x3)) (vA A 7 (vA (vA (A 7) 0 g4) 1 g5)) B D MF MA MD MB) H := hP.sub [102, 103, 104, 0, 1, 2, 3, 4, 5, 6, 7, 8, 9, 10, 105, 106, 107, 108, 109, 110, 111, 112, 113, 114, 115, 116, 117, 118, 119, 120, 11, 12, 13, 14, 15, 16, 17, 18, 19, 20, 21, 22, 23, 24, 25, 26, 27, 28, 29, 30, 31, 32, 33, 34, 35, 36, 37, 38, 39, 40, 41, 42, 43, 44, 45, 46, 47, 48, 49, 50, 51, 52, 53, 54, 55, 56, 57, 58, 59, 60, 61, 62, 63, 64, 65, 66, 67, 68, 69, 70, 71, 72, 73, 74, 75, 76, 77, 78, 79, 80, 81, 82, 83, 84, 85, 86, 87, 88, 89, 90, 91, 92, 93, 94, 95, 96, 97, 98, 99, 100, 101] rfl
  have hD : va_D (fun q : Nat => s.heap.size ≤ q) (LW cs h1 Q h2 q2 (vA F 7 (upd (upd (F 7) 2 x2) 3 x3)) (vA A 7 (vA (vA (A 7) 0 g4) 1 g5)) B D MF MA MD MB) := hD.sub [102, 103, 104, 0, 1, 2, 3, 4, 5, 6, 7, 8, 9, 10, 105, 106, 107, 108, 109, 110, 111, 112, 113, 114, 115, 116, 117, 118, 119, 120, 11, 12, 13, 14, 15, 16, 17, 18, 19, 20, 21, 22, 23, 24, 25, 26, 27, 28, 29, 30, 31, 32, 33, 34, 35, 36, 37, 38, 39, 40, 41, 42, 43, 44, 45, 46, 47, 48, 49, 50, 51, 52, 53, 54, 55, 56, 57, 58, 59, 60, 61, 62, 63, 64, 65, 66, 67, 68, 69, 70, 71, 72, 73, 74, 75, 76, 77, 78, 79, 80, 81, 82, 83, 84, 85, 86, 87, 88, 89, 90, 91, 92, 93, 94, 95, 96, 97, 98, 99, 100, 101] (by decide +kernel) rfl
  refine lv_pop hx hb dL_law_1241 rfl ?_
  refine lv_aload_n hx hb dL_law_1242 rfl (lv_at hl 1 rfl) ?_
  refine lv_aload_n hx hb dL_law_1243 rfl (lv_at hl 3 rfl) ?_
  refine lv_iload_n hx hb dL_law_1244 rfl (lv_at hl 0 rfl) ?_
  refine lv_iconst (v := 1) hx hb dL_law_1245 (by decide) ?_
  refine lv_iadd hx hb dL_law_1246 ?_
  refine va_sld hx hb hXs hbl hbA hS (inK t1 (by omega) (by omega)) dL_law_1247 ?_
  refine W.eq (g2 := F0 m 1248 ls [.int a1, .ref h2]) (by rw [← ea1]) ?_
  refine behDi (wr := (XLW cs h1 Q (vA F 7 (upd (upd (F 7) 2 x2) 3 x3)) (vA A 7 (vA (vA (A 7) 0 g4) 1 g5)) B D)) (runVD (As := [.int a1]) (rest := []) ⟨hx, hb, hml, hown, ht⟩ (sX11_desk l G cs h2 q2 MF MA MD MB hM.1 a1) okV_RL_165 ⟨(Nat.le_of_ble_eq_true rfl), (Nat.le_of_ble_eq_true rfl)⟩ hK hP hD [101, 102, 103, 104, 105, 106, 107, 108, 109, 110, 111, 112, 113, 114, 115, 116, 117, 118, 119, 120] rfl (by decide +kernel) rfl 101 rfl rfl hl.1 rfl (Nat.le_of_ble_eq_true rfl) dL_law_1248 ⟨(Nat.le_of_ble_eq_true rfl), (Nat.le_of_ble_eq_true rfl)⟩) hP hD hS (fun _ h => h) [101, 102, 103, 104, 105, 106, 107, 108, 109, 110, 111, 112, 113, 114, 115, 116, 117, 118, 119, 120] [0, 1, 2, 3, 4, 5, 6, 7, 8, 9, 10, 11, 12, 13, 14, 15, 16, 17, 18, 19, 20, 21, 22, 23, 24, 25, 26, 27, 28, 29, 30, 31, 32, 33, 34, 35, 36, 37, 38, 39, 40, 41, 42, 43, 44, 45, 46, 47, 48, 49, 50, 51, 52, 53, 54, 55, 56, 57, 58, 59, 60, 61, 62, 63, 64, 65, 66, 67, 68, 69, 70, 71, 72, 73, 74, 75, 76, 77, 78, 79, 80, 81, 82, 83, 84, 85, 86, 87, 88, 89, 90, 91, 92, 93, 94, 95, 96, 97, 98, 99, 100] rfl rfl (by decide +kernel) (by decide +kernel) (fun r9 u H locs hu hP hD hS => ?_)
  obtain ⟨x7, x8, g9, g10⟩ := u
  obtain ⟨r6, rfl⟩ : ∃ z, z = r9 := ⟨_, rfl⟩
  have hr6 := hu
  have hP : va_P G vwCl (LW cs h1 Q h2 q2 (vA F 7 (upd (upd (F 7) 2 x2) 3 x3)) (vA A 7 (vA (vA (A 7) 0 g4) 1 g5)) B D (upd (upd MF 17 x7) 18 x8) (vA (vA MA 15 g9) 16 g10) MD MB) H := hP
  have hD : va_D (fun q : Nat => s.heap.size ≤ q) (LW cs h1 Q h2 q2 (vA F 7 (upd (upd (F 7) 2 x2) 3 x3)) (vA A 7 (vA (vA (A 7) 0 g4) 1 g5)) B D (upd (upd MF 17 x7) 18 x8) (vA (vA MA 15 g9) 16 g10) MD MB) := hD
  refine lv_pop hx hb dL_law_1251 rfl ?_
  refine lv_goto (tgt := 2156) hx hb dL_law_1252 (by decide) ?_
  exact kk (vA F 7 (upd (upd (F 7) 2 x2) 3 x3)) (vA A 7 (vA (vA (A 7) 0 g4) 1 g5)) B D (upd (upd MF 17 x7) 18 x8) (vA (vA MA 15 g9) 16 g10) MD MB H locs ls ⟨hX.1, hX.2.1, hX.2.2.1, hX.2.2.2.1, hX.2.2.2.2.1, hX.2.2.2.2.2.1, hX.2.2.2.2.2.2.1, (IB_arr (k := 1) (IB_arr (k := 0) (IB_put (k := 3) (IB_put (k := 2) hX.2.2.2.2.2.2.2.1 (i32b _)) (i32b _)) (AJ_full _)) (AJ_full _)), hX.2.2.2.2.2.2.2.2.1, hX.2.2.2.2.2.2.2.2.2.1, hX.2.2.2.2.2.2.2.2.2.2.1, hX.2.2.2.2.2.2.2.2.2.2.2.1, hX.2.2.2.2.2.2.2.2.2.2.2.2.1, hX.2.2.2.2.2.2.2.2.2.2.2.2.2.1, hX.2.2.2.2.2.2.2.2.2.2.2.2.2.2.1, hX.2.2.2.2.2.2.2.2.2.2.2.2.2.2.2.1, hX.2.2.2.2.2.2.2.2.2.2.2.2.2.2.2.2.1, hX.2.2.2.2.2.2.2.2.2.2.2.2.2.2.2.2.2.1, hX.2.2.2.2.2.2.2.2.2.2.2.2.2.2.2.2.2.2.1, hX.2.2.2.2.2.2.2.2.2.2.2.2.2.2.2.2.2.2.2.1, hX.2.2.2.2.2.2.2.2.2.2.2.2.2.2.2.2.2.2.2.2.1, hX.2.2.2.2.2.2.2.2.2.2.2.2.2.2.2.2.2.2.2.2.2.1, hX.2.2.2.2.2.2.2.2.2.2.2.2.2.2.2.2.2.2.2.2.2.2.1, hX.2.2.2.2.2.2.2.2.2.2.2.2.2.2.2.2.2.2.2.2.2.2.2.1, hX.2.2.2.2.2.2.2.2.2.2.2.2.2.2.2.2.2.2.2.2.2.2.2.2.1, hX.2.2.2.2.2.2.2.2.2.2.2.2.2.2.2.2.2.2.2.2.2.2.2.2.2.1, hX.2.2.2.2.2.2.2.2.2.2.2.2.2.2.2.2.2.2.2.2.2.2.2.2.2.2⟩ ⟨(IM_arr (k := 16) (IM_arr (k := 15) (IM_put (k := 18) (IM_put (k := 17) hM.1 (i32b _)) (i32b _)) (fun _ => i32b _)) (fun _ => i32b _)), hM.2.1, hM.2.2⟩ hR hP hD hS hl

set_option maxRecDepth 100000 in
set_option maxHeartbeats 16000000 in
theorem law_37 {p : Program} {l : Launch} {e : Env} {s : State} {m : MethodId} {below : List Frame} {meth : Method} {c : Code} {b L : Nat} {xs : Nat → Int32} {G : va_G} {cs : Nat → ClassId} {h1 : Nat} {Q : Nat → Nat → Nat} {h2 : Nat} {q2 : Nat → Nat} {sd : Nat → Nat × Nat} {i : Int32} : LCase p l e s m below meth c b G cs h1 Q h2 q2 i L xs sd 37 := by
  intro C0 hL hK hQ hQM hi0 hi6 kk F A B D MF MA MD MB H locs ls hX hM hR hP hD hS hl
  obtain ⟨hx, hb, hr, hml, hown, hts, hXs, hbl, hlocks, hgv⟩ := id C0
  have hown : s.vm.findClass RL = some m.cls := hown
  have ht : ∀ w ∈ tb, w.before #[Value.ref b] s = true := fun w h => hts w (List.mem_filter.mp h).1
  have hbA : ¬ (fun q : Nat => s.heap.size ≤ q) b := Nat.not_le.mpr hbl
  have t1 : (i + 1).toInt = i.toInt + 1 := addT rfl (by decide) (by omega)
  obtain ⟨a1, ea1⟩ : ∃ z : Int32, z = xs (i + 1).toNatClampNeg := ⟨_, rfl⟩
  refine lv_tableIn (off := 1222) (tgt := 1255) hx hb dL_law_33 (by decide) (by decide) (by decide) (by decide) ?_
  refine lv_aload_n hx hb dL_law_1255 rfl (lv_at hl 2 rfl) ?_
  refine lv_aload_n hx hb dL_law_1256 rfl (lv_at hl 3 rfl) ?_
  refine lv_iload_n hx hb dL_law_1257 rfl (lv_at hl 0 rfl) ?_
  refine lv_iconst (v := 1) hx hb dL_law_1258 (by decide) ?_
  refine lv_iadd hx hb dL_law_1259 ?_
  refine va_sld hx hb hXs hbl hbA hS (inK t1 (by omega) (by omega)) dL_law_1260 ?_
  refine W.eq (g2 := F0 m 1261 ls [.int a1, .ref h1]) (by rw [← ea1]) ?_
  refine behDi (wr := ((uX6 cs (Q 0 0) (fun _ => Q 0 1) (F 1) (A 1) (B 1) (D 1)) ++ ((uX9 cs (Q 0 1) (Q 2) (F 2) (A 2) (B 2) (D 2)) ++ ((uX3 cs (Q 0 2) (Q 3) (F 3) (A 3) (B 3) (D 3)) ++ ((uX5 cs (Q 0 6) (Q 6) (F 6) (A 6) (B 6) (D 6)) ++ ((uX5 cs (Q 0 7) (Q 7) (F 7) (A 7) (B 7) (D 7)) ++ ((uX0 cs (Q 0 8) (Q 8) (F 8) (A 8) (B 8) (D 8)) ++ ((uX4 cs (Q 0 10) (Q 10) (F 10) (A 10) (B 10) (D 10)) ++ ((uX2 cs (Q 0 11) (Q 11) (F 11) (A 11) (B 11) (D 11)) ++ ((uX7 cs (Q 0 20) (Q 12) (F 12) (A 12) (B 12) (D 12)) ++ ((uX7 cs (Q 0 21) (Q 13) (F 13) (A 13) (B 13) (D 13)) ++ ((uX7 cs (Q 0 22) (Q 14) (F 14) (A 14) (B 14) (D 14)) ++ ((uX7 cs (Q 0 23) (Q 15) (F 15) (A 15) (B 15) (D 15)) ++ ((uX8 cs (Q 0 30) (Q 16) (F 16) (A 16) (B 16) (D 16)) ++ ((uX3 cs (Q 16 0) (Q 17) (F 17) (A 17) (B 17) (D 17)) ++ ((uX8 cs (Q 0 31) (Q 18) (F 18) (A 18) (B 18) (D 18)) ++ ((uX3 cs (Q 18 0) (Q 19) (F 19) (A 19) (B 19) (D 19)) ++ ((uX8 cs (Q 0 32) (Q 20) (F 20) (A 20) (B 20) (D 20)) ++ ((uX3 cs (Q 20 0) (Q 21) (F 21) (A 21) (B 21) (D 21)) ++ ((uX5 cs (Q 8 10) (Q 22) (F 22) (A 22) (B 22) (D 22)) ++ ((uX5 cs (Q 8 11) (Q 23) (F 23) (A 23) (B 23) (D 23)) ++ ((uX5 cs (Q 8 12) (Q 24) (F 24) (A 24) (B 24) (D 24)) ++ ((uX5 cs (Q 8 13) (Q 25) (F 25) (A 25) (B 25) (D 25)) ++ ((uX5 cs (Q 8 14) (Q 26) (F 26) (A 26) (B 26) (D 26)) ++ (mS cs h2 q2 MF MA MD MB))))))))))))))))))))))))) (runVD (As := [.int a1]) (rest := []) ⟨hx, hb, hml, hown, ht⟩ (sX10_one l G cs h1 (Q 0) (F 0) (A 0) (B 0) (D 0) hX.1 (Q 4) (F 4) (A 4) (B 4) (D 4) hX.2.2.2.2.1 (Q 5) (F 5) (A 5) (B 5) (D 5) hX.2.2.2.2.2.1 (Q 9) (F 9) (A 9) (B 9) (D 9) hX.2.2.2.2.2.2.2.2.2.1 a1) okV_RL_166 ⟨(Nat.le_of_ble_eq_true rfl), (Nat.le_of_ble_eq_true rfl)⟩ hK hP hD [0, 1, 2, 14, 15, 16, 17, 18, 19, 20, 21, 22, 23, 39, 40, 41, 42, 43, 44] rfl (by decide +kernel) rfl 0 rfl rfl hl.1 rfl (Nat.le_of_ble_eq_true rfl) dL_law_1261 ⟨(Nat.le_of_ble_eq_true rfl), (Nat.le_of_ble_eq_true rfl)⟩) hP hD hS (fun _ h => h) [0, 1, 2, 14, 15, 16, 17, 18, 19, 20, 21, 22, 23, 39, 40, 41, 42, 43, 44] [3, 4, 5, 6, 7, 8, 9, 10, 11, 12, 13, 24, 25, 26, 27, 28, 29, 30, 31, 32, 33, 34, 35, 36, 37, 38, 45, 46, 47, 48, 49, 50, 51, 52, 53, 54, 55, 56, 57, 58, 59, 60, 61, 62, 63, 64, 65, 66, 67, 68, 69, 70, 71, 72, 73, 74, 75, 76, 77, 78, 79, 80, 81, 82, 83, 84, 85, 86, 87, 88, 89, 90, 91, 92, 93, 94, 95, 96, 97, 98, 99, 100, 101, 102, 103, 104, 105, 106, 107, 108, 109, 110, 111, 112, 113, 114, 115, 116, 117, 118, 119, 120] rfl rfl (by decide +kernel) (by decide +kernel) (fun r9 u H locs hu hP hD hS => ?_)
  obtain ⟨x2, x3, g4, g5, y6⟩ := u
  obtain ⟨r1, rfl⟩ : ∃ z, z = r9 := ⟨_, rfl⟩
  obtain ⟨hbx2, hbx3, hg4, hg5, hr1⟩ := hu
  have hbx2 : (0 : Int) ≤ x2.toInt ∧ x2.toInt ≤ 1792 := hbx2
  have hbx3 : (-1 : Int) ≤ x3.toInt ∧ x3.toInt ≤ 1791 := hbx3
  have hg4 : AJ (0) 6271 g4 := hg4
  have hg5 : AJ (-1) 1791 g5 := hg5
  have hP : va_P G vwCl (LW cs h1 Q h2 q2 (vA F 9 (upd (upd (F 9) 5 x2) 6 x3)) (vA A 9 (vA (vA (A 9) 1 g4) 2 g5)) (vA B 9 (vA (B 9) 0 y6)) D MF MA MD MB) H := hP.sub [102, 103, 104, 0, 1, 2, 3, 4, 5, 6, 7, 8, 9, 10, 105, 106, 107, 108, 109, 110, 111, 112, 113, 114, 11, 12, 13, 14, 15, 16, 17, 18, 19, 20, 21, 22, 23, 24, 25, 115, 116, 117, 118, 119, 120, 26, 27, 28, 29, 30, 31, 32, 33, 34, 35, 36, 37, 38, 39, 40, 41, 42, 43, 44, 45, 46, 47, 48, 49, 50, 51, 52, 53, 54, 55, 56, 57, 58, 59, 60, 61, 62, 63, 64, 65, 66, 67, 68, 69, 70, 71, 72, 73, 74, 75, 76, 77, 78, 79, 80, 81, 82, 83, 84, 85, 86, 87, 88, 89, 90, 91, 92, 93, 94, 95, 96, 97, 98, 99, 100, 101] rfl
  have hD : va_D (fun q : Nat => s.heap.size ≤ q) (LW cs h1 Q h2 q2 (vA F 9 (upd (upd (F 9) 5 x2) 6 x3)) (vA A 9 (vA (vA (A 9) 1 g4) 2 g5)) (vA B 9 (vA (B 9) 0 y6)) D MF MA MD MB) := hD.sub [102, 103, 104, 0, 1, 2, 3, 4, 5, 6, 7, 8, 9, 10, 105, 106, 107, 108, 109, 110, 111, 112, 113, 114, 11, 12, 13, 14, 15, 16, 17, 18, 19, 20, 21, 22, 23, 24, 25, 115, 116, 117, 118, 119, 120, 26, 27, 28, 29, 30, 31, 32, 33, 34, 35, 36, 37, 38, 39, 40, 41, 42, 43, 44, 45, 46, 47, 48, 49, 50, 51, 52, 53, 54, 55, 56, 57, 58, 59, 60, 61, 62, 63, 64, 65, 66, 67, 68, 69, 70, 71, 72, 73, 74, 75, 76, 77, 78, 79, 80, 81, 82, 83, 84, 85, 86, 87, 88, 89, 90, 91, 92, 93, 94, 95, 96, 97, 98, 99, 100, 101] (by decide +kernel) rfl
  refine lv_pop hx hb dL_law_1264 rfl ?_
  refine lv_aload_n hx hb dL_law_1265 rfl (lv_at hl 1 rfl) ?_
  refine lv_aload_n hx hb dL_law_1266 rfl (lv_at hl 3 rfl) ?_
  refine lv_iload_n hx hb dL_law_1267 rfl (lv_at hl 0 rfl) ?_
  refine lv_iconst (v := 1) hx hb dL_law_1268 (by decide) ?_
  refine lv_iadd hx hb dL_law_1269 ?_
  refine va_sld hx hb hXs hbl hbA hS (inK t1 (by omega) (by omega)) dL_law_1270 ?_
  refine W.eq (g2 := F0 m 1271 ls [.int a1, .ref h2]) (by rw [← ea1]) ?_
  refine behDi (wr := (XLW cs h1 Q (vA F 9 (upd (upd (F 9) 5 x2) 6 x3)) (vA A 9 (vA (vA (A 9) 1 g4) 2 g5)) (vA B 9 (vA (B 9) 0 y6)) D)) (runVD (As := [.int a1]) (rest := []) ⟨hx, hb, hml, hown, ht⟩ (sX11_one l G cs h2 q2 MF MA MD MB hM.1 a1) okV_RL_169 ⟨(Nat.le_of_ble_eq_true rfl), (Nat.le_of_ble_eq_true rfl)⟩ hK hP hD [101, 102, 103, 104, 105, 106, 107, 108, 109, 110, 111, 112, 113, 114, 115, 116, 117, 118, 119, 120] rfl (by decide +kernel) rfl 101 rfl rfl hl.1 rfl (Nat.le_of_ble_eq_true rfl) dL_law_1271 ⟨(Nat.le_of_ble_eq_true rfl), (Nat.le_of_ble_eq_true rfl)⟩) hP hD hS (fun _ h => h) [101, 102, 103, 104, 105, 106, 107, 108, 109, 110, 111, 112, 113, 114, 115, 116, 117, 118, 119, 120] [0, 1, 2, 3, 4, 5, 6, 7, 8, 9, 10, 11, 12, 13, 14, 15, 16, 17, 18, 19, 20, 21, 22, 23, 24, 25, 26, 27, 28, 29, 30, 31, 32, 33, 34, 35, 36, 37, 38, 39, 40, 41, 42, 43, 44, 45, 46, 47, 48, 49, 50, 51, 52, 53, 54, 55, 56, 57, 58, 59, 60, 61, 62, 63, 64, 65, 66, 67, 68, 69, 70, 71, 72, 73, 74, 75, 76, 77, 78, 79, 80, 81, 82, 83, 84, 85, 86, 87, 88, 89, 90, 91, 92, 93, 94, 95, 96, 97, 98, 99, 100] rfl rfl (by decide +kernel) (by decide +kernel) (fun r9 u H locs hu hP hD hS => ?_)
  obtain ⟨x8, g9, g10, g11⟩ := u
  obtain ⟨r7, rfl⟩ : ∃ z, z = r9 := ⟨_, rfl⟩
  obtain ⟨hbx8, hr7⟩ := hu
  have hbx8 : (0 : Int) ≤ x8.toInt ∧ x8.toInt ≤ 6272 := hbx8
  have hP : va_P G vwCl (LW cs h1 Q h2 q2 (vA F 9 (upd (upd (F 9) 5 x2) 6 x3)) (vA A 9 (vA (vA (A 9) 1 g4) 2 g5)) (vA B 9 (vA (B 9) 0 y6)) D (upd MF 26 x8) (vA (vA (vA MA 23 g9) 24 g10) 25 g11) MD MB) H := hP
  have hD : va_D (fun q : Nat => s.heap.size ≤ q) (LW cs h1 Q h2 q2 (vA F 9 (upd (upd (F 9) 5 x2) 6 x3)) (vA A 9 (vA (vA (A 9) 1 g4) 2 g5)) (vA B 9 (vA (B 9) 0 y6)) D (upd MF 26 x8) (vA (vA (vA MA 23 g9) 24 g10) 25 g11) MD MB) := hD
  refine lv_pop hx hb dL_law_1274 rfl ?_
  refine lv_goto (tgt := 2156) hx hb dL_law_1275 (by decide) ?_
  exact kk (vA F 9 (upd (upd (F 9) 5 x2) 6 x3)) (vA A 9 (vA (vA (A 9) 1 g4) 2 g5)) (vA B 9 (vA (B 9) 0 y6)) D (upd MF 26 x8) (vA (vA (vA MA 23 g9) 24 g10) 25 g11) MD MB H locs ls ⟨hX.1, hX.2.1, hX.2.2.1, hX.2.2.2.1, hX.2.2.2.2.1, hX.2.2.2.2.2.1, hX.2.2.2.2.2.2.1, hX.2.2.2.2.2.2.2.1, hX.2.2.2.2.2.2.2.2.1, (IB_arr (k := 2) (IB_arr (k := 1) (IB_put (k := 6) (IB_put (k := 5) hX.2.2.2.2.2.2.2.2.2.1 (hbx2)) (hbx3)) hg4) hg5), hX.2.2.2.2.2.2.2.2.2.2.1, hX.2.2.2.2.2.2.2.2.2.2.2.1, hX.2.2.2.2.2.2.2.2.2.2.2.2.1, hX.2.2.2.2.2.2.2.2.2.2.2.2.2.1, hX.2.2.2.2.2.2.2.2.2.2.2.2.2.2.1, hX.2.2.2.2.2.2.2.2.2.2.2.2.2.2.2.1, hX.2.2.2.2.2.2.2.2.2.2.2.2.2.2.2.2.1, hX.2.2.2.2.2.2.2.2.2.2.2.2.2.2.2.2.2.1, hX.2.2.2.2.2.2.2.2.2.2.2.2.2.2.2.2.2.2.1, hX.2.2.2.2.2.2.2.2.2.2.2.2.2.2.2.2.2.2.2.1, hX.2.2.2.2.2.2.2.2.2.2.2.2.2.2.2.2.2.2.2.2.1, hX.2.2.2.2.2.2.2.2.2.2.2.2.2.2.2.2.2.2.2.2.2.1, hX.2.2.2.2.2.2.2.2.2.2.2.2.2.2.2.2.2.2.2.2.2.2.1, hX.2.2.2.2.2.2.2.2.2.2.2.2.2.2.2.2.2.2.2.2.2.2.2.1, hX.2.2.2.2.2.2.2.2.2.2.2.2.2.2.2.2.2.2.2.2.2.2.2.2.1, hX.2.2.2.2.2.2.2.2.2.2.2.2.2.2.2.2.2.2.2.2.2.2.2.2.2.1, hX.2.2.2.2.2.2.2.2.2.2.2.2.2.2.2.2.2.2.2.2.2.2.2.2.2.2⟩ ⟨(IM_arr (k := 25) (IM_arr (k := 24) (IM_arr (k := 23) (IM_put (k := 26) hM.1 (hbx8)) (fun _ => i32b _)) (fun _ => i32b _)) (fun _ => i32b _)), hM.2.1, hM.2.2⟩ hR hP hD hS hl

set_option maxRecDepth 100000 in
set_option maxHeartbeats 16000000 in
theorem law_38 {p : Program} {l : Launch} {e : Env} {s : State} {m : MethodId} {below : List Frame} {meth : Method} {c : Code} {b L : Nat} {xs : Nat → Int32} {G : va_G} {cs : Nat → ClassId} {h1 : Nat} {Q : Nat → Nat → Nat} {h2 : Nat} {q2 : Nat → Nat} {sd : Nat → Nat × Nat} {i : Int32} : LCase p l e s m below meth c b G cs h1 Q h2 q2 i L xs sd 38 := by
  intro C0 hL hK hQ hQM hi0 hi6 kk F A B D MF MA MD MB H locs ls hX hM hR hP hD hS hl
  obtain ⟨hx, hb, hr, hml, hown, hts, hXs, hbl, hlocks, hgv⟩ := id C0
  have hown : s.vm.findClass RL = some m.cls := hown
  have ht : ∀ w ∈ tb, w.before #[Value.ref b] s = true := fun w h => hts w (List.mem_filter.mp h).1
  have hbA : ¬ (fun q : Nat => s.heap.size ≤ q) b := Nat.not_le.mpr hbl
  have t1 : (i + 1).toInt = i.toInt + 1 := addT rfl (by decide) (by omega)
  obtain ⟨a1, ea1⟩ : ∃ z : Int32, z = xs (i + 1).toNatClampNeg := ⟨_, rfl⟩
  have t2 : (i + 2).toInt = i.toInt + 2 := addT rfl (by decide) (by omega)
  obtain ⟨a2, ea2⟩ : ∃ z : Int32, z = xs (i + 2).toNatClampNeg := ⟨_, rfl⟩
  refine lv_tableIn (off := 1245) (tgt := 1278) hx hb dL_law_33 (by decide) (by decide) (by decide) (by decide) ?_
  refine lv_aload_n hx hb dL_law_1278 rfl (lv_at hl 2 rfl) ?_
  refine lv_aload_n hx hb dL_law_1279 rfl (lv_at hl 3 rfl) ?_
  refine lv_iload_n hx hb dL_law_1280 rfl (lv_at hl 0 rfl) ?_
  refine lv_iconst (v := 1) hx hb dL_law_1281 (by decide) ?_
  refine lv_iadd hx hb dL_law_1282 ?_
  refine va_sld hx hb hXs hbl hbA hS (inK t1 (by omega) (by omega)) dL_law_1283 ?_
  refine W.eq (g2 := F0 m 1284 ls [.int a1, .ref h1]) (by rw [← ea1]) ?_
  refine lv_aload_n hx hb dL_law_1284 rfl (lv_at hl 3 rfl) ?_
  refine lv_iload_n hx hb dL_law_1285 rfl (lv_at hl 0 rfl) ?_
  refine lv_iconst (v := 2) hx hb dL_law_1286 (by decide) ?_
  refine lv_iadd hx hb dL_law_1287 ?_
  refine va_sld hx hb hXs hbl hbA hS (inK t2 (by omega) (by omega)) dL_law_1288 ?_
  refine W.eq (g2 := F0 m 1289 ls [.int a2, .int a1, .ref h1]) (by rw [← ea2]) ?_
  refine behDi (wr := ((uX6 cs (Q 0 0) (fun _ => Q 0 1) (F 1) (A 1) (B 1) (D 1)) ++ ((uX9 cs (Q 0 1) (Q 2) (F 2) (A 2) (B 2) (D 2)) ++ ((uX3 cs (Q 0 2) (Q 3) (F 3) (A 3) (B 3) (D 3)) ++ ((uX5 cs (Q 0 6) (Q 6) (F 6) (A 6) (B 6) (D 6)) ++ ((uX5 cs (Q 0 7) (Q 7) (F 7) (A 7) (B 7) (D 7)) ++ ((uX0 cs (Q 0 8) (Q 8) (F 8) (A 8) (B 8) (D 8)) ++ ((uX4 cs (Q 0 10) (Q 10) (F 10) (A 10) (B 10) (D 10)) ++ ((uX2 cs (Q 0 11) (Q 11) (F 11) (A 11) (B 11) (D 11)) ++ ((uX7 cs (Q 0 20) (Q 12) (F 12) (A 12) (B 12) (D 12)) ++ ((uX7 cs (Q 0 21) (Q 13) (F 13) (A 13) (B 13) (D 13)) ++ ((uX7 cs (Q 0 22) (Q 14) (F 14) (A 14) (B 14) (D 14)) ++ ((uX7 cs (Q 0 23) (Q 15) (F 15) (A 15) (B 15) (D 15)) ++ ((uX8 cs (Q 0 30) (Q 16) (F 16) (A 16) (B 16) (D 16)) ++ ((uX3 cs (Q 16 0) (Q 17) (F 17) (A 17) (B 17) (D 17)) ++ ((uX8 cs (Q 0 31) (Q 18) (F 18) (A 18) (B 18) (D 18)) ++ ((uX3 cs (Q 18 0) (Q 19) (F 19) (A 19) (B 19) (D 19)) ++ ((uX8 cs (Q 0 32) (Q 20) (F 20) (A 20) (B 20) (D 20)) ++ ((uX3 cs (Q 20 0) (Q 21) (F 21) (A 21) (B 21) (D 21)) ++ ((uX5 cs (Q 8 10) (Q 22) (F 22) (A 22) (B 22) (D 22)) ++ ((uX5 cs (Q 8 11) (Q 23) (F 23) (A 23) (B 23) (D 23)) ++ ((uX5 cs (Q 8 12) (Q 24) (F 24) (A 24) (B 24) (D 24)) ++ ((uX5 cs (Q 8 13) (Q 25) (F 25) (A 25) (B 25) (D 25)) ++ ((uX5 cs (Q 8 14) (Q 26) (F 26) (A 26) (B 26) (D 26)) ++ (mS cs h2 q2 MF MA MD MB))))))))))))))))))))))))) (runVD (As := [.int a1, .int a2]) (rest := []) ⟨hx, hb, hml, hown, ht⟩ (sX10_two l G cs h1 (Q 0) (F 0) (A 0) (B 0) (D 0) hX.1 (Q 4) (F 4) (A 4) (B 4) (D 4) hX.2.2.2.2.1 (Q 5) (F 5) (A 5) (B 5) (D 5) hX.2.2.2.2.2.1 (Q 9) (F 9) (A 9) (B 9) (D 9) hX.2.2.2.2.2.2.2.2.2.1 a1 a2) okV_RL_170 ⟨(Nat.le_of_ble_eq_true rfl), (Nat.le_of_ble_eq_true rfl)⟩ hK hP hD [0, 1, 2, 14, 15, 16, 17, 18, 19, 20, 21, 22, 23, 39, 40, 41, 42, 43, 44] rfl (by decide +kernel) rfl 0 rfl rfl hl.1 rfl (Nat.le_of_ble_eq_true rfl) dL_law_1289 ⟨(Nat.le_of_ble_eq_true rfl), (Nat.le_of_ble_eq_true rfl)⟩) hP hD hS (fun _ h => h) [0, 1, 2, 14, 15, 16, 17, 18, 19, 20, 21, 22, 23, 39, 40, 41, 42, 43, 44] [3, 4, 5, 6, 7, 8, 9, 10, 11, 12, 13, 24, 25, 26, 27, 28, 29, 30, 31, 32, 33, 34, 35, 36, 37, 38, 45, 46, 47, 48, 49, 50, 51, 52, 53, 54, 55, 56, 57, 58, 59, 60, 61, 62, 63, 64, 65, 66, 67, 68, 69, 70, 71, 72, 73, 74, 75, 76, 77, 78, 79, 80, 81, 82, 83, 84, 85, 86, 87, 88, 89, 90, 91, 92, 93, 94, 95, 96, 97, 98, 99, 100, 101, 102, 103, 104, 105, 106, 107, 108, 109, 110, 111, 112, 113, 114, 115, 116, 117, 118, 119, 120] rfl rfl (by decide +kernel) (by decide +kernel) (fun r9 u H locs hu hP hD hS => ?_)
  obtain ⟨x2, x3, g4, g5, y6⟩ := u
  obtain ⟨r1, rfl⟩ : ∃ z, z = r9 := ⟨_, rfl⟩
  obtain ⟨hbx2, hbx3, hg4, hg5, hr1⟩ := hu
  have hbx2 : (0 : Int) ≤ x2.toInt ∧ x2.toInt ≤ 1792 := hbx2
  have hbx3 : (-1 : Int) ≤ x3.toInt ∧ x3.toInt ≤ 1791 := hbx3
  have hg4 : AJ (0) 6271 g4 := hg4
  have hg5 : AJ (-1) 1791 g5 := hg5
  have hP : va_P G vwCl (LW cs h1 Q h2 q2 (vA F 9 (upd (upd (F 9) 5 x2) 6 x3)) (vA A 9 (vA (vA (A 9) 1 g4) 2 g5)) (vA B 9 (vA (B 9) 0 y6)) D MF MA MD MB) H := hP.sub [102, 103, 104, 0, 1, 2, 3, 4, 5, 6, 7, 8, 9, 10, 105, 106, 107, 108, 109, 110, 111, 112, 113, 114, 11, 12, 13, 14, 15, 16, 17, 18, 19, 20, 21, 22, 23, 24, 25, 115, 116, 117, 118, 119, 120, 26, 27, 28, 29, 30, 31, 32, 33, 34, 35, 36, 37, 38, 39, 40, 41, 42, 43, 44, 45, 46, 47, 48, 49, 50, 51, 52, 53, 54, 55, 56, 57, 58, 59, 60, 61, 62, 63, 64, 65, 66, 67, 68, 69, 70, 71, 72, 73, 74, 75, 76, 77, 78, 79, 80, 81, 82, 83, 84, 85, 86, 87, 88, 89, 90, 91, 92, 93, 94, 95, 96, 97, 98, 99, 100, 101] rfl
  have hD : va_D (fun q : Nat => s.heap.size ≤ q) (LW cs h1 Q h2 q2 (vA F 9 (upd (upd (F 9) 5 x2) 6 x3)) (vA A 9 (vA (vA (A 9) 1 g4) 2 g5)) (vA B 9 (vA (B 9) 0 y6)) D MF MA MD MB) := hD.sub [102, 103, 104, 0, 1, 2, 3, 4, 5, 6, 7, 8, 9, 10, 105, 106, 107, 108, 109, 110, 111, 112, 113, 114, 11, 12, 13, 14, 15, 16, 17, 18, 19, 20, 21, 22, 23, 24, 25, 115, 116, 117, 118, 119, 120, 26, 27, 28, 29, 30, 31, 32, 33, 34, 35, 36, 37, 38, 39, 40, 41, 42, 43, 44, 45, 46, 47, 48, 49, 50, 51, 52, 53, 54, 55, 56, 57, 58, 59, 60, 61, 62, 63, 64, 65, 66, 67, 68, 69, 70, 71, 72, 73, 74, 75, 76, 77, 78, 79, 80, 81, 82, 83, 84, 85, 86, 87, 88, 89, 90, 91, 92, 93, 94, 95, 96, 97, 98, 99, 100, 101] (by decide +kernel) rfl
  refine lv_pop hx hb dL_law_1292 rfl ?_
  refine lv_aload_n hx hb dL_law_1293 rfl (lv_at hl 1 rfl) ?_
  refine lv_aload_n hx hb dL_law_1294 rfl (lv_at hl 3 rfl) ?_
  refine lv_iload_n hx hb dL_law_1295 rfl (lv_at hl 0 rfl) ?_
  refine lv_iconst (v := 1) hx hb dL_law_1296 (by decide) ?_
  refine lv_iadd hx hb dL_law_1297 ?_
  refine va_sld hx hb hXs hbl hbA hS (inK t1 (by omega) (by omega)) dL_law_1298 ?_
  refine W.eq (g2 := F0 m 1299 ls [.int a1, .ref h2]) (by rw [← ea1]) ?_
  refine lv_aload_n hx hb dL_law_1299 rfl (lv_at hl 3 rfl) ?_
  refine lv_iload_n hx hb dL_law_1300 rfl (lv_at hl 0 rfl) ?_
  refine lv_iconst (v := 2) hx hb dL_law_1301 (by decide) ?_
  refine lv_iadd hx hb dL_law_1302 ?_
  refine va_sld hx hb hXs hbl hbA hS (inK t2 (by omega) (by omega)) dL_law_1303 ?_
  refine W.eq (g2 := F0 m 1304 ls [.int a2, .int a1, .ref h2]) (by rw [← ea2]) ?_
  refine behDi (wr := (XLW cs h1 Q (vA F 9 (upd (upd (F 9) 5 x2) 6 x3)) (vA A 9 (vA (vA (A 9) 1 g4) 2 g5)) (vA B 9 (vA (B 9) 0 y6)) D)) (runVD (As := [.int a1, .int a2]) (rest := []) ⟨hx, hb, hml, hown, ht⟩ (sX11_two l G cs h2 q2 MF MA MD MB hM.1 a1 a2) okV_RL_173 ⟨(Nat.le_of_ble_eq_true rfl), (Nat.le_of_ble_eq_true rfl)⟩ hK hP hD [101, 102, 103, 104, 105, 106, 107, 108, 109, 110, 111, 112, 113, 114, 115, 116, 117, 118, 119, 120] rfl (by decide +kernel) rfl 101 rfl rfl hl.1 rfl (Nat.le_of_ble_eq_true rfl) dL_law_1304 ⟨(Nat.le_of_ble_eq_true rfl), (Nat.le_of_ble_eq_true rfl)⟩) hP hD hS (fun _ h => h) [101, 102, 103, 104, 105, 106, 107, 108, 109, 110, 111, 112, 113, 114, 115, 116, 117, 118, 119, 120] [0, 1, 2, 3, 4, 5, 6, 7, 8, 9, 10, 11, 12, 13, 14, 15, 16, 17, 18, 19, 20, 21, 22, 23, 24, 25, 26, 27, 28, 29, 30, 31, 32, 33, 34, 35, 36, 37, 38, 39, 40, 41, 42, 43, 44, 45, 46, 47, 48, 49, 50, 51, 52, 53, 54, 55, 56, 57, 58, 59, 60, 61, 62, 63, 64, 65, 66, 67, 68, 69, 70, 71, 72, 73, 74, 75, 76, 77, 78, 79, 80, 81, 82, 83, 84, 85, 86, 87, 88, 89, 90, 91, 92, 93, 94, 95, 96, 97, 98, 99, 100] rfl rfl (by decide +kernel) (by decide +kernel) (fun r9 u H locs hu hP hD hS => ?_)
  obtain ⟨x8, g9, g10, g11⟩ := u
  obtain ⟨r7, rfl⟩ : ∃ z, z = r9 := ⟨_, rfl⟩
  obtain ⟨hbx8, hr7⟩ := hu
  have hbx8 : (0 : Int) ≤ x8.toInt ∧ x8.toInt ≤ 6272 := hbx8
  have hP : va_P G vwCl (LW cs h1 Q h2 q2 (vA F 9 (upd (upd (F 9) 5 x2) 6 x3)) (vA A 9 (vA (vA (A 9) 1 g4) 2 g5)) (vA B 9 (vA (B 9) 0 y6)) D (upd MF 26 x8) (vA (vA (vA MA 23 g9) 24 g10) 25 g11) MD MB) H := hP
  have hD : va_D (fun q : Nat => s.heap.size ≤ q) (LW cs h1 Q h2 q2 (vA F 9 (upd (upd (F 9) 5 x2) 6 x3)) (vA A 9 (vA (vA (A 9) 1 g4) 2 g5)) (vA B 9 (vA (B 9) 0 y6)) D (upd MF 26 x8) (vA (vA (vA MA 23 g9) 24 g10) 25 g11) MD MB) := hD
  refine lv_pop hx hb dL_law_1307 rfl ?_
  refine lv_goto (tgt := 2156) hx hb dL_law_1308 (by decide) ?_
  exact kk (vA F 9 (upd (upd (F 9) 5 x2) 6 x3)) (vA A 9 (vA (vA (A 9) 1 g4) 2 g5)) (vA B 9 (vA (B 9) 0 y6)) D (upd MF 26 x8) (vA (vA (vA MA 23 g9) 24 g10) 25 g11) MD MB H locs ls ⟨hX.1, hX.2.1, hX.2.2.1, hX.2.2.2.1, hX.2.2.2.2.1, hX.2.2.2.2.2.1, hX.2.2.2.2.2.2.1, hX.2.2.2.2.2.2.2.1, hX.2.2.2.2.2.2.2.2.1, (IB_arr (k := 2) (IB_arr (k := 1) (IB_put (k := 6) (IB_put (k := 5) hX.2.2.2.2.2.2.2.2.2.1 (hbx2)) (hbx3)) hg4) hg5), hX.2.2.2.2.2.2.2.2.2.2.1, hX.2.2.2.2.2.2.2.2.2.2.2.1, hX.2.2.2.2.2.2.2.2.2.2.2.2.1, hX.2.2.2.2.2.2.2.2.2.2.2.2.2.1, hX.2.2.2.2.2.2.2.2.2.2.2.2.2.2.1, hX.2.2.2.2.2.2.2.2.2.2.2.2.2.2.2.1, hX.2.2.2.2.2.2.2.2.2.2.2.2.2.2.2.2.1, hX.2.2.2.2.2.2.2.2.2.2.2.2.2.2.2.2.2.1, hX.2.2.2.2.2.2.2.2.2.2.2.2.2.2.2.2.2.2.1, hX.2.2.2.2.2.2.2.2.2.2.2.2.2.2.2.2.2.2.2.1, hX.2.2.2.2.2.2.2.2.2.2.2.2.2.2.2.2.2.2.2.2.1, hX.2.2.2.2.2.2.2.2.2.2.2.2.2.2.2.2.2.2.2.2.2.1, hX.2.2.2.2.2.2.2.2.2.2.2.2.2.2.2.2.2.2.2.2.2.2.1, hX.2.2.2.2.2.2.2.2.2.2.2.2.2.2.2.2.2.2.2.2.2.2.2.1, hX.2.2.2.2.2.2.2.2.2.2.2.2.2.2.2.2.2.2.2.2.2.2.2.2.1, hX.2.2.2.2.2.2.2.2.2.2.2.2.2.2.2.2.2.2.2.2.2.2.2.2.2.1, hX.2.2.2.2.2.2.2.2.2.2.2.2.2.2.2.2.2.2.2.2.2.2.2.2.2.2⟩ ⟨(IM_arr (k := 25) (IM_arr (k := 24) (IM_arr (k := 23) (IM_put (k := 26) hM.1 (hbx8)) (fun _ => i32b _)) (fun _ => i32b _)) (fun _ => i32b _)), hM.2.1, hM.2.2⟩ hR hP hD hS hl

set_option maxRecDepth 100000 in
set_option maxHeartbeats 16000000 in
theorem law_39 {p : Program} {l : Launch} {e : Env} {s : State} {m : MethodId} {below : List Frame} {meth : Method} {c : Code} {b L : Nat} {xs : Nat → Int32} {G : va_G} {cs : Nat → ClassId} {h1 : Nat} {Q : Nat → Nat → Nat} {h2 : Nat} {q2 : Nat → Nat} {sd : Nat → Nat × Nat} {i : Int32} : LCase p l e s m below meth c b G cs h1 Q h2 q2 i L xs sd 39 := by
  intro C0 hL hK hQ hQM hi0 hi6 kk F A B D MF MA MD MB H locs ls hX hM hR hP hD hS hl
  obtain ⟨hx, hb, hr, hml, hown, hts, hXs, hbl, hlocks, hgv⟩ := id C0
  have hown : s.vm.findClass RL = some m.cls := hown
  have ht : ∀ w ∈ tb, w.before #[Value.ref b] s = true := fun w h => hts w (List.mem_filter.mp h).1
  have hbA : ¬ (fun q : Nat => s.heap.size ≤ q) b := Nat.not_le.mpr hbl
  have t1 : (i + 1).toInt = i.toInt + 1 := addT rfl (by decide) (by omega)
  obtain ⟨a1, ea1⟩ : ∃ z : Int32, z = xs (i + 1).toNatClampNeg := ⟨_, rfl⟩
  have t2 : (i + 2).toInt = i.toInt + 2 := addT rfl (by decide) (by omega)
  obtain ⟨a2, ea2⟩ : ∃ z : Int32, z = xs (i + 2).toNatClampNeg := ⟨_, rfl⟩
  have t3 : (i + 3).toInt = i.toInt + 3 := addT rfl (by decide) (by omega)
  obtain ⟨a3, ea3⟩ : ∃ z : Int32, z = xs (i + 3).toNatClampNeg := ⟨_, rfl⟩
  have t4 : (i + 4).toInt = i.toInt + 4 := addT rfl (by decide) (by omega)
  obtain ⟨a4, ea4⟩ : ∃ z : Int32, z = xs (i + 4).toNatClampNeg := ⟨_, rfl⟩
  refine lv_tableIn (off := 1278) (tgt := 1311) hx hb dL_law_33 (by decide) (by decide) (by decide) (by decide) ?_
  refine lv_aload_n hx hb dL_law_1311 rfl (lv_at hl 2 rfl) ?_
  refine lv_aload_n hx hb dL_law_1312 rfl (lv_at hl 3 rfl) ?_
  refine lv_iload_n hx hb dL_law_1313 rfl (lv_at hl 0 rfl) ?_
  refine lv_iconst (v := 1) hx hb dL_law_1314 (by decide) ?_
  refine lv_iadd hx hb dL_law_1315 ?_
  refine va_sld hx hb hXs hbl hbA hS (inK t1 (by omega) (by omega)) dL_law_1316 ?_
  refine W.eq (g2 := F0 m 1317 ls [.int a1, .ref h1]) (by rw [← ea1]) ?_
  refine lv_aload_n hx hb dL_law_1317 rfl (lv_at hl 3 rfl) ?_
  refine lv_iload_n hx hb dL_law_1318 rfl (lv_at hl 0 rfl) ?_
  refine lv_iconst (v := 2) hx hb dL_law_1319 (by decide) ?_
  refine lv_iadd hx hb dL_law_1320 ?_
  refine va_sld hx hb hXs hbl hbA hS (inK t2 (by omega) (by omega)) dL_law_1321 ?_
  refine W.eq (g2 := F0 m 1322 ls [.int a2, .int a1, .ref h1]) (by rw [← ea2]) ?_
  refine lv_aload_n hx hb dL_law_1322 rfl (lv_at hl 3 rfl) ?_
  refine lv_iload_n hx hb dL_law_1323 rfl (lv_at hl 0 rfl) ?_
  refine lv_iconst (v := 3) hx hb dL_law_1324 (by decide) ?_
  refine lv_iadd hx hb dL_law_1325 ?_
  refine va_sld hx hb hXs hbl hbA hS (inK t3 (by omega) (by omega)) dL_law_1326 ?_
  refine W.eq (g2 := F0 m 1327 ls [.int a3, .int a2, .int a1, .ref h1]) (by rw [← ea3]) ?_
  refine lv_aload_n hx hb dL_law_1327 rfl (lv_at hl 3 rfl) ?_
  refine lv_iload_n hx hb dL_law_1328 rfl (lv_at hl 0 rfl) ?_
  refine lv_iconst (v := 4) hx hb dL_law_1329 (by decide) ?_
  refine lv_iadd hx hb dL_law_1330 ?_
  refine va_sld hx hb hXs hbl hbA hS (inK t4 (by omega) (by omega)) dL_law_1331 ?_
  refine W.eq (g2 := F0 m 1332 ls [.int a4, .int a3, .int a2, .int a1, .ref h1]) (by rw [← ea4]) ?_
  refine behDi (wr := ((uX6 cs (Q 0 0) (fun _ => Q 0 1) (F 1) (A 1) (B 1) (D 1)) ++ ((uX9 cs (Q 0 1) (Q 2) (F 2) (A 2) (B 2) (D 2)) ++ ((uX3 cs (Q 0 2) (Q 3) (F 3) (A 3) (B 3) (D 3)) ++ ((uX5 cs (Q 0 6) (Q 6) (F 6) (A 6) (B 6) (D 6)) ++ ((uX5 cs (Q 0 7) (Q 7) (F 7) (A 7) (B 7) (D 7)) ++ ((uX0 cs (Q 0 8) (Q 8) (F 8) (A 8) (B 8) (D 8)) ++ ((uX4 cs (Q 0 10) (Q 10) (F 10) (A 10) (B 10) (D 10)) ++ ((uX2 cs (Q 0 11) (Q 11) (F 11) (A 11) (B 11) (D 11)) ++ ((uX7 cs (Q 0 20) (Q 12) (F 12) (A 12) (B 12) (D 12)) ++ ((uX7 cs (Q 0 21) (Q 13) (F 13) (A 13) (B 13) (D 13)) ++ ((uX7 cs (Q 0 22) (Q 14) (F 14) (A 14) (B 14) (D 14)) ++ ((uX7 cs (Q 0 23) (Q 15) (F 15) (A 15) (B 15) (D 15)) ++ ((uX8 cs (Q 0 30) (Q 16) (F 16) (A 16) (B 16) (D 16)) ++ ((uX3 cs (Q 16 0) (Q 17) (F 17) (A 17) (B 17) (D 17)) ++ ((uX8 cs (Q 0 31) (Q 18) (F 18) (A 18) (B 18) (D 18)) ++ ((uX3 cs (Q 18 0) (Q 19) (F 19) (A 19) (B 19) (D 19)) ++ ((uX8 cs (Q 0 32) (Q 20) (F 20) (A 20) (B 20) (D 20)) ++ ((uX3 cs (Q 20 0) (Q 21) (F 21) (A 21) (B 21) (D 21)) ++ ((uX5 cs (Q 8 10) (Q 22) (F 22) (A 22) (B 22) (D 22)) ++ ((uX5 cs (Q 8 11) (Q 23) (F 23) (A 23) (B 23) (D 23)) ++ ((uX5 cs (Q 8 12) (Q 24) (F 24) (A 24) (B 24) (D 24)) ++ ((uX5 cs (Q 8 13) (Q 25) (F 25) (A 25) (B 25) (D 25)) ++ ((uX5 cs (Q 8 14) (Q 26) (F 26) (A 26) (B 26) (D 26)) ++ (mS cs h2 q2 MF MA MD MB))))))))))))))))))))))))) (runVD (As := [.int a1, .int a2, .int a3, .int a4]) (rest := []) ⟨hx, hb, hml, hown, ht⟩ (sX10_way l G cs h1 (Q 0) (F 0) (A 0) (B 0) (D 0) hX.1 (Q 4) (F 4) (A 4) (B 4) (D 4) hX.2.2.2.2.1 (Q 5) (F 5) (A 5) (B 5) (D 5) hX.2.2.2.2.2.1 (Q 9) (F 9) (A 9) (B 9) (D 9) hX.2.2.2.2.2.2.2.2.2.1 a1 a2 a3 a4) okV_RL_174 ⟨(Nat.le_of_ble_eq_true rfl), (Nat.le_of_ble_eq_true rfl)⟩ hK hP hD [0, 1, 2, 14, 15, 16, 17, 18, 19, 20, 21, 22, 23, 39, 40, 41, 42, 43, 44] rfl (by decide +kernel) rfl 0 rfl rfl hl.1 rfl (Nat.le_of_ble_eq_true rfl) dL_law_1332 ⟨(Nat.le_of_ble_eq_true rfl), (Nat.le_of_ble_eq_true rfl)⟩) hP hD hS (fun _ h => h) [0, 1, 2, 14, 15, 16, 17, 18, 19, 20, 21, 22, 23, 39, 40, 41, 42, 43, 44] [3, 4, 5, 6, 7, 8, 9, 10, 11, 12, 13, 24, 25, 26, 27, 28, 29, 30, 31, 32, 33, 34, 35, 36, 37, 38, 45, 46, 47, 48, 49, 50, 51, 52, 53, 54, 55, 56, 57, 58, 59, 60, 61, 62, 63, 64, 65, 66, 67, 68, 69, 70, 71, 72, 73, 74, 75, 76, 77, 78, 79, 80, 81, 82, 83, 84, 85, 86, 87, 88, 89, 90, 91, 92, 93, 94, 95, 96, 97, 98, 99, 100, 101, 102, 103, 104, 105, 106, 107, 108, 109, 110, 111, 112, 113, 114, 115, 116, 117, 118, 119, 120] rfl rfl (by decide +kernel) (by decide +kernel) (fun r9 u H locs hu hP hD hS => ?_)
  obtain ⟨x2, x3, g4, g5, y6⟩ := u
  obtain ⟨r1, rfl⟩ : ∃ z, z = r9 := ⟨_, rfl⟩
  obtain ⟨hbx2, hbx3, hg4, hg5, hr1⟩ := hu
  have hbx2 : (0 : Int) ≤ x2.toInt ∧ x2.toInt ≤ 1792 := hbx2
  have hbx3 : (-1 : Int) ≤ x3.toInt ∧ x3.toInt ≤ 1791 := hbx3
  have hg4 : AJ (0) 6271 g4 := hg4
  have hg5 : AJ (-1) 1791 g5 := hg5
  have hP : va_P G vwCl (LW cs h1 Q h2 q2 (vA F 9 (upd (upd (F 9) 5 x2) 6 x3)) (vA A 9 (vA (vA (A 9) 1 g4) 2 g5)) (vA B 9 (vA (B 9) 0 y6)) D MF MA MD MB) H := hP.sub [102, 103, 104, 0, 1, 2, 3, 4, 5, 6, 7, 8, 9, 10, 105, 106, 107, 108, 109, 110, 111, 112, 113, 114, 11, 12, 13, 14, 15, 16, 17, 18, 19, 20, 21, 22, 23, 24, 25, 115, 116, 117, 118, 119, 120, 26, 27, 28, 29, 30, 31, 32, 33, 34, 35, 36, 37, 38, 39, 40, 41, 42, 43, 44, 45, 46, 47, 48, 49, 50, 51, 52, 53, 54, 55, 56, 57, 58, 59, 60, 61, 62, 63, 64, 65, 66, 67, 68, 69, 70, 71, 72, 73, 74, 75, 76, 77, 78, 79, 80, 81, 82, 83, 84, 85, 86, 87, 88, 89, 90, 91, 92, 93, 94, 95, 96, 97, 98, 99, 100, 101] rfl
  have hD : va_D (fun q : Nat => s.heap.size ≤ q) (LW cs h1 Q h2 q2 (vA F 9 (upd (upd (F 9) 5 x2) 6 x3)) (vA A 9 (vA (vA (A 9) 1 g4) 2 g5)) (vA B 9 (vA (B 9) 0 y6)) D MF MA MD MB) := hD.sub [102, 103, 104, 0, 1, 2, 3, 4, 5, 6, 7, 8, 9, 10, 105, 106, 107, 108, 109, 110, 111, 112, 113, 114, 11, 12, 13, 14, 15, 16, 17, 18, 19, 20, 21, 22, 23, 24, 25, 115, 116, 117, 118, 119, 120, 26, 27, 28, 29, 30, 31, 32, 33, 34, 35, 36, 37, 38, 39, 40, 41, 42, 43, 44, 45, 46, 47, 48, 49, 50, 51, 52, 53, 54, 55, 56, 57, 58, 59, 60, 61, 62, 63, 64, 65, 66, 67, 68, 69, 70, 71, 72, 73, 74, 75, 76, 77, 78, 79, 80, 81, 82, 83, 84, 85, 86, 87, 88, 89, 90, 91, 92, 93, 94, 95, 96, 97, 98, 99, 100, 101] (by decide +kernel) rfl
  refine lv_pop hx hb dL_law_1335 rfl ?_
  refine lv_aload_n hx hb dL_law_1336 rfl (lv_at hl 1 rfl) ?_
  refine lv_aload_n hx hb dL_law_1337 rfl (lv_at hl 3 rfl) ?_
  refine lv_iload_n hx hb dL_law_1338 rfl (lv_at hl 0 rfl) ?_
  refine lv_iconst (v := 1) hx hb dL_law_1339 (by decide) ?_
  refine lv_iadd hx hb dL_law_1340 ?_
  refine va_sld hx hb hXs hbl hbA hS (inK t1 (by omega) (by omega)) dL_law_1341 ?_
  refine W.eq (g2 := F0 m 1342 ls [.int a1, .ref h2]) (by rw [← ea1]) ?_
  refine lv_aload_n hx hb dL_law_1342 rfl (lv_at hl 3 rfl) ?_
  refine lv_iload_n hx hb dL_law_1343 rfl (lv_at hl 0 rfl) ?_
  refine lv_iconst (v := 2) hx hb dL_law_1344 (by decide) ?_
  refine lv_iadd hx hb dL_law_1345 ?_
  refine va_sld hx hb hXs hbl hbA hS (inK t2 (by omega) (by omega)) dL_law_1346 ?_
  refine W.eq (g2 := F0 m 1347 ls [.int a2, .int a1, .ref h2]) (by rw [← ea2]) ?_
  refine lv_aload_n hx hb dL_law_1347 rfl (lv_at hl 3 rfl) ?_
  refine lv_iload_n hx hb dL_law_1348 rfl (lv_at hl 0 rfl) ?_
  refine lv_iconst (v := 3) hx hb dL_law_1349 (by decide) ?_
  refine lv_iadd hx hb dL_law_1350 ?_
  refine va_sld hx hb hXs hbl hbA hS (inK t3 (by omega) (by omega)) dL_law_1351 ?_
  refine W.eq (g2 := F0 m 1352 ls [.int a3, .int a2, .int a1, .ref h2]) (by rw [← ea3]) ?_
  refine lv_aload_n hx hb dL_law_1352 rfl (lv_at hl 3 rfl) ?_
  refine lv_iload_n hx hb dL_law_1353 rfl (lv_at hl 0 rfl) ?_
  refine lv_iconst (v := 4) hx hb dL_law_1354 (by decide) ?_
  refine lv_iadd hx hb dL_law_1355 ?_
  refine va_sld hx hb hXs hbl hbA hS (inK t4 (by omega) (by omega)) dL_law_1356 ?_
  refine W.eq (g2 := F0 m 1357 ls [.int a4, .int a3, .int a2, .int a1, .ref h2]) (by rw [← ea4]) ?_
  refine behDi (wr := (XLW cs h1 Q (vA F 9 (upd (upd (F 9) 5 x2) 6 x3)) (vA A 9 (vA (vA (A 9) 1 g4) 2 g5)) (vA B 9 (vA (B 9) 0 y6)) D)) (runVD (As := [.int a1, .int a2, .int a3, .int a4]) (rest := []) ⟨hx, hb, hml, hown, ht⟩ (sX11_way l G cs h2 q2 MF MA MD MB hM.1 a1 a2 a3 a4) okV_RL_178 ⟨(Nat.le_of_ble_eq_true rfl), (Nat.le_of_ble_eq_true rfl)⟩ hK hP hD [101, 102, 103, 104, 105, 106, 107, 108, 109, 110, 111, 112, 113, 114, 115, 116, 117, 118, 119, 120] rfl (by decide +kernel) rfl 101 rfl rfl hl.1 rfl (Nat.le_of_ble_eq_true rfl) dL_law_1357 ⟨(Nat.le_of_ble_eq_true rfl), (Nat.le_of_ble_eq_true rfl)⟩) hP hD hS (fun _ h => h) [101, 102, 103, 104, 105, 106, 107, 108, 109, 110, 111, 112, 113, 114, 115, 116, 117, 118, 119, 120] [0, 1, 2, 3, 4, 5, 6, 7, 8, 9, 10, 11, 12, 13, 14, 15, 16, 17, 18, 19, 20, 21, 22, 23, 24, 25, 26, 27, 28, 29, 30, 31, 32, 33, 34, 35, 36, 37, 38, 39, 40, 41, 42, 43, 44, 45, 46, 47, 48, 49, 50, 51, 52, 53, 54, 55, 56, 57, 58, 59, 60, 61, 62, 63, 64, 65, 66, 67, 68, 69, 70, 71, 72, 73, 74, 75, 76, 77, 78, 79, 80, 81, 82, 83, 84, 85, 86, 87, 88, 89, 90, 91, 92, 93, 94, 95, 96, 97, 98, 99, 100] rfl rfl (by decide +kernel) (by decide +kernel) (fun r9 u H locs hu hP hD hS => ?_)
  obtain ⟨x8, g9, g10, g11⟩ := u
  obtain ⟨r7, rfl⟩ : ∃ z, z = r9 := ⟨_, rfl⟩
  obtain ⟨hbx8, hr7⟩ := hu
  have hbx8 : (0 : Int) ≤ x8.toInt ∧ x8.toInt ≤ 6272 := hbx8
  have hP : va_P G vwCl (LW cs h1 Q h2 q2 (vA F 9 (upd (upd (F 9) 5 x2) 6 x3)) (vA A 9 (vA (vA (A 9) 1 g4) 2 g5)) (vA B 9 (vA (B 9) 0 y6)) D (upd MF 26 x8) (vA (vA (vA MA 23 g9) 24 g10) 25 g11) MD MB) H := hP
  have hD : va_D (fun q : Nat => s.heap.size ≤ q) (LW cs h1 Q h2 q2 (vA F 9 (upd (upd (F 9) 5 x2) 6 x3)) (vA A 9 (vA (vA (A 9) 1 g4) 2 g5)) (vA B 9 (vA (B 9) 0 y6)) D (upd MF 26 x8) (vA (vA (vA MA 23 g9) 24 g10) 25 g11) MD MB) := hD
  refine lv_pop hx hb dL_law_1360 rfl ?_
  refine lv_goto (tgt := 2156) hx hb dL_law_1361 (by decide) ?_
  exact kk (vA F 9 (upd (upd (F 9) 5 x2) 6 x3)) (vA A 9 (vA (vA (A 9) 1 g4) 2 g5)) (vA B 9 (vA (B 9) 0 y6)) D (upd MF 26 x8) (vA (vA (vA MA 23 g9) 24 g10) 25 g11) MD MB H locs ls ⟨hX.1, hX.2.1, hX.2.2.1, hX.2.2.2.1, hX.2.2.2.2.1, hX.2.2.2.2.2.1, hX.2.2.2.2.2.2.1, hX.2.2.2.2.2.2.2.1, hX.2.2.2.2.2.2.2.2.1, (IB_arr (k := 2) (IB_arr (k := 1) (IB_put (k := 6) (IB_put (k := 5) hX.2.2.2.2.2.2.2.2.2.1 (hbx2)) (hbx3)) hg4) hg5), hX.2.2.2.2.2.2.2.2.2.2.1, hX.2.2.2.2.2.2.2.2.2.2.2.1, hX.2.2.2.2.2.2.2.2.2.2.2.2.1, hX.2.2.2.2.2.2.2.2.2.2.2.2.2.1, hX.2.2.2.2.2.2.2.2.2.2.2.2.2.2.1, hX.2.2.2.2.2.2.2.2.2.2.2.2.2.2.2.1, hX.2.2.2.2.2.2.2.2.2.2.2.2.2.2.2.2.1, hX.2.2.2.2.2.2.2.2.2.2.2.2.2.2.2.2.2.1, hX.2.2.2.2.2.2.2.2.2.2.2.2.2.2.2.2.2.2.1, hX.2.2.2.2.2.2.2.2.2.2.2.2.2.2.2.2.2.2.2.1, hX.2.2.2.2.2.2.2.2.2.2.2.2.2.2.2.2.2.2.2.2.1, hX.2.2.2.2.2.2.2.2.2.2.2.2.2.2.2.2.2.2.2.2.2.1, hX.2.2.2.2.2.2.2.2.2.2.2.2.2.2.2.2.2.2.2.2.2.2.1, hX.2.2.2.2.2.2.2.2.2.2.2.2.2.2.2.2.2.2.2.2.2.2.2.1, hX.2.2.2.2.2.2.2.2.2.2.2.2.2.2.2.2.2.2.2.2.2.2.2.2.1, hX.2.2.2.2.2.2.2.2.2.2.2.2.2.2.2.2.2.2.2.2.2.2.2.2.2.1, hX.2.2.2.2.2.2.2.2.2.2.2.2.2.2.2.2.2.2.2.2.2.2.2.2.2.2⟩ ⟨(IM_arr (k := 25) (IM_arr (k := 24) (IM_arr (k := 23) (IM_put (k := 26) hM.1 (hbx8)) (fun _ => i32b _)) (fun _ => i32b _)) (fun _ => i32b _)), hM.2.1, hM.2.2⟩ hR hP hD hS hl

