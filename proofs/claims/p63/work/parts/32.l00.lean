set_option maxRecDepth 100000 in
set_option maxHeartbeats 16000000 in
theorem law_0 {p : Program} {l : Launch} {e : Env} {s : State} {m : MethodId} {below : List Frame} {meth : Method} {c : Code} {b L : Nat} {xs : Nat → Int32} {G : va_G} {cs : Nat → ClassId} {h1 : Nat} {Q : Nat → Nat → Nat} {h2 : Nat} {q2 : Nat → Nat} {sd : Nat → Nat × Nat} {i : Int32} : LCase p l e s m below meth c b G cs h1 Q h2 q2 i L xs sd 0 := by
  intro C0 hL hK hQ hQM hi0 hi6 kk F A B D MF MA MD MB H locs ls hX hM hR hP hD hS hl
  obtain ⟨hx, hb, hr, hml, hown, hts, hXs, hbl, hlocks, hgv⟩ := id C0
  have hown : s.vm.findClass RL = some m.cls := hown
  have ht : ∀ w ∈ tb, w.before #[Value.ref b] s = true := fun w h => hts w (List.mem_filter.mp h).1
  have hbA : ¬ (fun q : Nat => s.heap.size ≤ q) b := Nat.not_le.mpr hbl
  have t1 : (i + 1).toInt = i.toInt + 1 := addT rfl (by decide) (by omega)
  obtain ⟨a1, ea1⟩ : ∃ z : Int32, z = xs (i + 1).toNatClampNeg := ⟨_, rfl⟩
  have t2 : (i + 2).toInt = i.toInt + 2 := addT rfl (by decide) (by omega)
  obtain ⟨a2, ea2⟩ : ∃ z : Int32, z = xs (i + 2).toNatClampNeg := ⟨_, rfl⟩
  have t3 : (i + 3).toInt = i.toInt + 3 := addT rfl (by decide) (by omega)
  obtain ⟨a3, ea3⟩ : ∃ z : Int32, z = xs (i + 3).toNatClampNeg := ⟨_, rfl⟩
  have t4 : (i + 4).toInt = i.toInt + 4 := addT rfl (by decide) (by omega)
  obtain ⟨a4, ea4⟩ : ∃ z : Int32, z = xs (i + 4).toNatClampNeg := ⟨_, rfl⟩
  have t5 : (i + 5).toInt = i.toInt + 5 := addT rfl (by decide) (by omega)
  obtain ⟨a5, ea5⟩ : ∃ z : Int32, z = xs (i + 5).toNatClampNeg := ⟨_, rfl⟩
  refine lv_tableIn (off := 271) (tgt := 304) hx hb dL_law_33 (by decide) (by decide) (by decide) (by decide) ?_
  refine lv_aload_n hx hb dL_law_304 rfl (lv_at hl 2 rfl) ?_
  refine lv_aload_n hx hb dL_law_305 rfl (lv_at hl 3 rfl) ?_
  refine lv_iload_n hx hb dL_law_306 rfl (lv_at hl 0 rfl) ?_
  refine lv_iconst (v := 1) hx hb dL_law_307 (by decide) ?_
  refine lv_iadd hx hb dL_law_308 ?_
  refine va_sld hx hb hXs hbl hbA hS (inK t1 (by omega) (by omega)) dL_law_309 ?_
  refine W.eq (g2 := F0 m 310 ls [.int a1, .ref h1]) (by rw [← ea1]) ?_
  refine lv_aload_n hx hb dL_law_310 rfl (lv_at hl 3 rfl) ?_
  refine lv_iload_n hx hb dL_law_311 rfl (lv_at hl 0 rfl) ?_
  refine lv_iconst (v := 2) hx hb dL_law_312 (by decide) ?_
  refine lv_iadd hx hb dL_law_313 ?_
  refine va_sld hx hb hXs hbl hbA hS (inK t2 (by omega) (by omega)) dL_law_314 ?_
  refine W.eq (g2 := F0 m 315 ls [.int a2, .int a1, .ref h1]) (by rw [← ea2]) ?_
  refine lv_aload_n hx hb dL_law_315 rfl (lv_at hl 3 rfl) ?_
  refine lv_iload_n hx hb dL_law_316 rfl (lv_at hl 0 rfl) ?_
  refine lv_iconst (v := 3) hx hb dL_law_317 (by decide) ?_
  refine lv_iadd hx hb dL_law_318 ?_
  refine va_sld hx hb hXs hbl hbA hS (inK t3 (by omega) (by omega)) dL_law_319 ?_
  refine W.eq (g2 := F0 m 320 ls [.int a3, .int a2, .int a1, .ref h1]) (by rw [← ea3]) ?_
  refine lv_aload_n hx hb dL_law_320 rfl (lv_at hl 3 rfl) ?_
  refine lv_iload_n hx hb dL_law_321 rfl (lv_at hl 0 rfl) ?_
  refine lv_iconst (v := 4) hx hb dL_law_322 (by decide) ?_
  refine lv_iadd hx hb dL_law_323 ?_
  refine va_sld hx hb hXs hbl hbA hS (inK t4 (by omega) (by omega)) dL_law_324 ?_
  refine W.eq (g2 := F0 m 325 ls [.int a4, .int a3, .int a2, .int a1, .ref h1]) (by rw [← ea4]) ?_
  refine lv_aload_n hx hb dL_law_325 rfl (lv_at hl 3 rfl) ?_
  refine lv_iload_n hx hb dL_law_326 rfl (lv_at hl 0 rfl) ?_
  refine lv_iconst (v := 5) hx hb dL_law_327 (by decide) ?_
  refine lv_iadd hx hb dL_law_328 ?_
  refine va_sld hx hb hXs hbl hbA hS (inK t5 (by omega) (by omega)) dL_law_329 ?_
  refine W.eq (g2 := F0 m 330 ls [.int a5, .int a4, .int a3, .int a2, .int a1, .ref h1]) (by rw [← ea5]) ?_
  refine behDi (wr := ((uX6 cs (Q 0 0) (fun _ => Q 0 1) (F 1) (A 1) (B 1) (D 1)) ++ ((uX3 cs (Q 0 2) (Q 3) (F 3) (A 3) (B 3) (D 3)) ++ ((uX8 cs (Q 0 3) (Q 4) (F 4) (A 4) (B 4) (D 4)) ++ ((uX3 cs (Q 4 0) (Q 5) (F 5) (A 5) (B 5) (D 5)) ++ ((uX5 cs (Q 0 6) (Q 6) (F 6) (A 6) (B 6) (D 6)) ++ ((uX5 cs (Q 0 7) (Q 7) (F 7) (A 7) (B 7) (D 7)) ++ ((uX0 cs (Q 0 8) (Q 8) (F 8) (A 8) (B 8) (D 8)) ++ ((uX1 cs (Q 0 9) (Q 9) (F 9) (A 9) (B 9) (D 9)) ++ ((uX4 cs (Q 0 10) (Q 10) (F 10) (A 10) (B 10) (D 10)) ++ ((uX2 cs (Q 0 11) (Q 11) (F 11) (A 11) (B 11) (D 11)) ++ ((uX7 cs (Q 0 20) (Q 12) (F 12) (A 12) (B 12) (D 12)) ++ ((uX7 cs (Q 0 21) (Q 13) (F 13) (A 13) (B 13) (D 13)) ++ ((uX7 cs (Q 0 22) (Q 14) (F 14) (A 14) (B 14) (D 14)) ++ ((uX7 cs (Q 0 23) (Q 15) (F 15) (A 15) (B 15) (D 15)) ++ ((uX8 cs (Q 0 30) (Q 16) (F 16) (A 16) (B 16) (D 16)) ++ ((uX3 cs (Q 16 0) (Q 17) (F 17) (A 17) (B 17) (D 17)) ++ ((uX8 cs (Q 0 31) (Q 18) (F 18) (A 18) (B 18) (D 18)) ++ ((uX3 cs (Q 18 0) (Q 19) (F 19) (A 19) (B 19) (D 19)) ++ ((uX8 cs (Q 0 32) (Q 20) (F 20) (A 20) (B 20) (D 20)) ++ ((uX3 cs (Q 20 0) (Q 21) (F 21) (A 21) (B 21) (D 21)) ++ ((uX5 cs (Q 8 10) (Q 22) (F 22) (A 22) (B 22) (D 22)) ++ ((uX5 cs (Q 8 11) (Q 23) (F 23) (A 23) (B 23) (D 23)) ++ ((uX5 cs (Q 8 12) (Q 24) (F 24) (A 24) (B 24) (D 24)) ++ ((uX5 cs (Q 8 13) (Q 25) (F 25) (A 25) (B 25) (D 25)) ++ ((uX5 cs (Q 8 14) (Q 26) (F 26) (A 26) (B 26) (D 26)) ++ (mS cs h2 q2 MF MA MD MB))))))))))))))))))))))))))) (runVD (As := [.int a1, .int a2, .int a3, .int a4, .int a5]) (rest := []) ⟨hx, hb, hml, hown, ht⟩ (sX10_feed l G cs h1 (Q 0) (F 0) (A 0) (B 0) (D 0) hX.1 (Q 2) (F 2) (A 2) (B 2) (D 2) hX.2.2.1 a1 a2 a3 a4 a5) okV_RL_13 ⟨(Nat.le_of_ble_eq_true rfl), (Nat.le_of_ble_eq_true rfl)⟩ hK hP hD [0, 1, 2, 4, 5] rfl (by decide +kernel) rfl 0 rfl rfl hl.1 rfl (Nat.le_of_ble_eq_true rfl) dL_law_330 ⟨(Nat.le_of_ble_eq_true rfl), (Nat.le_of_ble_eq_true rfl)⟩) hP hD hS (fun _ h => h) [0, 1, 2, 4, 5] [3, 6, 7, 8, 9, 10, 11, 12, 13, 14, 15, 16, 17, 18, 19, 20, 21, 22, 23, 24, 25, 26, 27, 28, 29, 30, 31, 32, 33, 34, 35, 36, 37, 38, 39, 40, 41, 42, 43, 44, 45, 46, 47, 48, 49, 50, 51, 52, 53, 54, 55, 56, 57, 58, 59, 60, 61, 62, 63, 64, 65, 66, 67, 68, 69, 70, 71, 72, 73, 74, 75, 76, 77, 78, 79, 80, 81, 82, 83, 84, 85, 86, 87, 88, 89, 90, 91, 92, 93, 94, 95, 96, 97, 98, 99, 100, 101, 102, 103, 104, 105, 106, 107, 108, 109, 110, 111, 112, 113, 114, 115, 116, 117, 118, 119, 120] rfl rfl (by decide +kernel) (by decide +kernel) (fun r9 u H locs hu hP hD hS => ?_)
  obtain ⟨x2, g3⟩ := u
  obtain ⟨r1, rfl⟩ : ∃ z, z = r9 := ⟨_, rfl⟩
  obtain ⟨hbx2, hr1⟩ := hu
  have hbx2 : (0 : Int) ≤ x2.toInt ∧ x2.toInt ≤ 900 := hbx2
  have hP : va_P G vwCl (LW cs h1 Q h2 q2 (vA F 2 (upd (F 2) 1 x2)) (vA A 2 (vA (A 2) 0 g3)) B D MF MA MD MB) H := hP.sub [116, 117, 118, 0, 119, 120, 1, 2, 3, 4, 5, 6, 7, 8, 9, 10, 11, 12, 13, 14, 15, 16, 17, 18, 19, 20, 21, 22, 23, 24, 25, 26, 27, 28, 29, 30, 31, 32, 33, 34, 35, 36, 37, 38, 39, 40, 41, 42, 43, 44, 45, 46, 47, 48, 49, 50, 51, 52, 53, 54, 55, 56, 57, 58, 59, 60, 61, 62, 63, 64, 65, 66, 67, 68, 69, 70, 71, 72, 73, 74, 75, 76, 77, 78, 79, 80, 81, 82, 83, 84, 85, 86, 87, 88, 89, 90, 91, 92, 93, 94, 95, 96, 97, 98, 99, 100, 101, 102, 103, 104, 105, 106, 107, 108, 109, 110, 111, 112, 113, 114, 115] rfl
  have hD : va_D (fun q : Nat => s.heap.size ≤ q) (LW cs h1 Q h2 q2 (vA F 2 (upd (F 2) 1 x2)) (vA A 2 (vA (A 2) 0 g3)) B D MF MA MD MB) := hD.sub [116, 117, 118, 0, 119, 120, 1, 2, 3, 4, 5, 6, 7, 8, 9, 10, 11, 12, 13, 14, 15, 16, 17, 18, 19, 20, 21, 22, 23, 24, 25, 26, 27, 28, 29, 30, 31, 32, 33, 34, 35, 36, 37, 38, 39, 40, 41, 42, 43, 44, 45, 46, 47, 48, 49, 50, 51, 52, 53, 54, 55, 56, 57, 58, 59, 60, 61, 62, 63, 64, 65, 66, 67, 68, 69, 70, 71, 72, 73, 74, 75, 76, 77, 78, 79, 80, 81, 82, 83, 84, 85, 86, 87, 88, 89, 90, 91, 92, 93, 94, 95, 96, 97, 98, 99, 100, 101, 102, 103, 104, 105, 106, 107, 108, 109, 110, 111, 112, 113, 114, 115] (by decide +kernel) rfl
  refine lv_pop hx hb dL_law_333 rfl ?_
  refine lv_aload_n hx hb dL_law_334 rfl (lv_at hl 1 rfl) ?_
  refine lv_aload_n hx hb dL_law_335 rfl (lv_at hl 3 rfl) ?_
  refine lv_iload_n hx hb dL_law_336 rfl (lv_at hl 0 rfl) ?_
  refine lv_iconst (v := 1) hx hb dL_law_337 (by decide) ?_
  refine lv_iadd hx hb dL_law_338 ?_
  refine va_sld hx hb hXs hbl hbA hS (inK t1 (by omega) (by omega)) dL_law_339 ?_
  refine W.eq (g2 := F0 m 340 ls [.int a1, .ref h2]) (by rw [← ea1]) ?_
  refine lv_aload_n hx hb dL_law_340 rfl (lv_at hl 3 rfl) ?_
  refine lv_iload_n hx hb dL_law_341 rfl (lv_at hl 0 rfl) ?_
  refine lv_iconst (v := 2) hx hb dL_law_342 (by decide) ?_
  refine lv_iadd hx hb dL_law_343 ?_
  refine va_sld hx hb hXs hbl hbA hS (inK t2 (by omega) (by omega)) dL_law_344 ?_
  refine W.eq (g2 := F0 m 345 ls [.int a2, .int a1, .ref h2]) (by rw [← ea2]) ?_
  refine lv_aload_n hx hb dL_law_345 rfl (lv_at hl 3 rfl) ?_
  refine lv_iload_n hx hb dL_law_346 rfl (lv_at hl 0 rfl) ?_
  refine lv_iconst (v := 3) hx hb dL_law_347 (by decide) ?_
  refine lv_iadd hx hb dL_law_348 ?_
  refine va_sld hx hb hXs hbl hbA hS (inK t3 (by omega) (by omega)) dL_law_349 ?_
  refine W.eq (g2 := F0 m 350 ls [.int a3, .int a2, .int a1, .ref h2]) (by rw [← ea3]) ?_
  refine lv_aload_n hx hb dL_law_350 rfl (lv_at hl 3 rfl) ?_
  refine lv_iload_n hx hb dL_law_351 rfl (lv_at hl 0 rfl) ?_
  refine lv_iconst (v := 4) hx hb dL_law_352 (by decide) ?_
  refine lv_iadd hx hb dL_law_353 ?_
  refine va_sld hx hb hXs hbl hbA hS (inK t4 (by omega) (by omega)) dL_law_354 ?_
  refine W.eq (g2 := F0 m 355 ls [.int a4, .int a3, .int a2, .int a1, .ref h2]) (by rw [← ea4]) ?_
  refine lv_aload_n hx hb dL_law_355 rfl (lv_at hl 3 rfl) ?_
  refine lv_iload_n hx hb dL_law_356 rfl (lv_at hl 0 rfl) ?_
  refine lv_iconst (v := 5) hx hb dL_law_357 (by decide) ?_
  refine lv_iadd hx hb dL_law_358 ?_
  refine va_sld hx hb hXs hbl hbA hS (inK t5 (by omega) (by omega)) dL_law_359 ?_
  refine W.eq (g2 := F0 m 360 ls [.int a5, .int a4, .int a3, .int a2, .int a1, .ref h2]) (by rw [← ea5]) ?_
  refine behDi (wr := (XLW cs h1 Q (vA F 2 (upd (F 2) 1 x2)) (vA A 2 (vA (A 2) 0 g3)) B D)) (runVD (As := [.int a1, .int a2, .int a3, .int a4, .int a5]) (rest := []) ⟨hx, hb, hml, hown, ht⟩ (sX11_feed l G cs h2 q2 MF MA MD MB hM.1 a1 a2 a3 a4 a5) okV_RL_17 ⟨(Nat.le_of_ble_eq_true rfl), (Nat.le_of_ble_eq_true rfl)⟩ hK hP hD [101, 102, 103, 104, 105, 106, 107, 108, 109, 110, 111, 112, 113, 114, 115, 116, 117, 118, 119, 120] rfl (by decide +kernel) rfl 101 rfl rfl hl.1 rfl (Nat.le_of_ble_eq_true rfl) dL_law_360 ⟨(Nat.le_of_ble_eq_true rfl), (Nat.le_of_ble_eq_true rfl)⟩) hP hD hS (fun _ h => h) [101, 102, 103, 104, 105, 106, 107, 108, 109, 110, 111, 112, 113, 114, 115, 116, 117, 118, 119, 120] [0, 1, 2, 3, 4, 5, 6, 7, 8, 9, 10, 11, 12, 13, 14, 15, 16, 17, 18, 19, 20, 21, 22, 23, 24, 25, 26, 27, 28, 29, 30, 31, 32, 33, 34, 35, 36, 37, 38, 39, 40, 41, 42, 43, 44, 45, 46, 47, 48, 49, 50, 51, 52, 53, 54, 55, 56, 57, 58, 59, 60, 61, 62, 63, 64, 65, 66, 67, 68, 69, 70, 71, 72, 73, 74, 75, 76, 77, 78, 79, 80, 81, 82, 83, 84, 85, 86, 87, 88, 89, 90, 91, 92, 93, 94, 95, 96, 97, 98, 99, 100] rfl rfl (by decide +kernel) (by decide +kernel) (fun r9 u H locs hu hP hD hS => ?_)
  obtain ⟨x5, g6, g7⟩ := u
  obtain ⟨r4, rfl⟩ : ∃ z, z = r9 := ⟨_, rfl⟩
  obtain ⟨hbx5, hr4⟩ := hu
  have hbx5 : (0 : Int) ≤ x5.toInt ∧ x5.toInt ≤ 900 := hbx5
  have hP : va_P G vwCl (LW cs h1 Q h2 q2 (vA F 2 (upd (F 2) 1 x2)) (vA A 2 (vA (A 2) 0 g3)) B D (upd MF 5 x5) (vA (vA MA 4 g6) 6 g7) MD MB) H := hP
  have hD : va_D (fun q : Nat => s.heap.size ≤ q) (LW cs h1 Q h2 q2 (vA F 2 (upd (F 2) 1 x2)) (vA A 2 (vA (A 2) 0 g3)) B D (upd MF 5 x5) (vA (vA MA 4 g6) 6 g7) MD MB) := hD
  refine lv_pop hx hb dL_law_363 rfl ?_
  refine lv_goto (tgt := 2156) hx hb dL_law_364 (by decide) ?_
  exact kk (vA F 2 (upd (F 2) 1 x2)) (vA A 2 (vA (A 2) 0 g3)) B D (upd MF 5 x5) (vA (vA MA 4 g6) 6 g7) MD MB H locs ls ⟨hX.1, hX.2.1, (IB_arr (k := 0) (IB_put (k := 1) hX.2.2.1 (hbx2)) (AJ_full _)), hX.2.2.2.1, hX.2.2.2.2.1, hX.2.2.2.2.2.1, hX.2.2.2.2.2.2.1, hX.2.2.2.2.2.2.2.1, hX.2.2.2.2.2.2.2.2.1, hX.2.2.2.2.2.2.2.2.2.1, hX.2.2.2.2.2.2.2.2.2.2.1, hX.2.2.2.2.2.2.2.2.2.2.2.1, hX.2.2.2.2.2.2.2.2.2.2.2.2.1, hX.2.2.2.2.2.2.2.2.2.2.2.2.2.1, hX.2.2.2.2.2.2.2.2.2.2.2.2.2.2.1, hX.2.2.2.2.2.2.2.2.2.2.2.2.2.2.2.1, hX.2.2.2.2.2.2.2.2.2.2.2.2.2.2.2.2.1, hX.2.2.2.2.2.2.2.2.2.2.2.2.2.2.2.2.2.1, hX.2.2.2.2.2.2.2.2.2.2.2.2.2.2.2.2.2.2.1, hX.2.2.2.2.2.2.2.2.2.2.2.2.2.2.2.2.2.2.2.1, hX.2.2.2.2.2.2.2.2.2.2.2.2.2.2.2.2.2.2.2.2.1, hX.2.2.2.2.2.2.2.2.2.2.2.2.2.2.2.2.2.2.2.2.2.1, hX.2.2.2.2.2.2.2.2.2.2.2.2.2.2.2.2.2.2.2.2.2.2.1, hX.2.2.2.2.2.2.2.2.2.2.2.2.2.2.2.2.2.2.2.2.2.2.2.1, hX.2.2.2.2.2.2.2.2.2.2.2.2.2.2.2.2.2.2.2.2.2.2.2.2.1, hX.2.2.2.2.2.2.2.2.2.2.2.2.2.2.2.2.2.2.2.2.2.2.2.2.2.1, hX.2.2.2.2.2.2.2.2.2.2.2.2.2.2.2.2.2.2.2.2.2.2.2.2.2.2⟩ ⟨(IM_arr (k := 6) (IM_arr (k := 4) (IM_put (k := 5) hM.1 (hbx5)) (fun _ => i32b _)) (fun _ => i32b _)), hM.2.1, hM.2.2⟩ hR hP hD hS hl

set_option maxRecDepth 100000 in
set_option maxHeartbeats 16000000 in
theorem law_1 {p : Program} {l : Launch} {e : Env} {s : State} {m : MethodId} {below : List Frame} {meth : Method} {c : Code} {b L : Nat} {xs : Nat → Int32} {G : va_G} {cs : Nat → ClassId} {h1 : Nat} {Q : Nat → Nat → Nat} {h2 : Nat} {q2 : Nat → Nat} {sd : Nat → Nat × Nat} {i : Int32} : LCase p l e s m below meth c b G cs h1 Q h2 q2 i L xs sd 1 := by
  intro C0 hL hK hQ hQM hi0 hi6 kk F A B D MF MA MD MB H locs ls hX hM hR hP hD hS hl
  obtain ⟨hx, hb, hr, hml, hown, hts, hXs, hbl, hlocks, hgv⟩ := id C0
  have hown : s.vm.findClass RL = some m.cls := hown
  have ht : ∀ w ∈ tb, w.before #[Value.ref b] s = true := fun w h => hts w (List.mem_filter.mp h).1
  have hbA : ¬ (fun q : Nat => s.heap.size ≤ q) b := Nat.not_le.mpr hbl
  have t1 : (i + 1).toInt = i.toInt + 1 := addT rfl (by decide) (by omega)
  obtain ⟨a1, ea1⟩ : ∃ z : Int32, z = xs (i + 1).toNatClampNeg := ⟨_, rfl⟩
  refine lv_tableIn (off := 334) (tgt := 367) hx hb dL_law_33 (by decide) (by decide) (by decide) (by decide) ?_
  refine lv_aload_n hx hb dL_law_367 rfl (lv_at hl 2 rfl) ?_
  refine lv_aload_n hx hb dL_law_368 rfl (lv_at hl 3 rfl) ?_
  refine lv_iload_n hx hb dL_law_369 rfl (lv_at hl 0 rfl) ?_
  refine lv_iconst (v := 1) hx hb dL_law_370 (by decide) ?_
  refine lv_iadd hx hb dL_law_371 ?_
  refine va_sld hx hb hXs hbl hbA hS (inK t1 (by omega) (by omega)) dL_law_372 ?_
  refine W.eq (g2 := F0 m 373 ls [.int a1, .ref h1]) (by rw [← ea1]) ?_
  refine behDi (wr := ((uX6 cs (Q 0 0) (fun _ => Q 0 1) (F 1) (A 1) (B 1) (D 1)) ++ ((uX3 cs (Q 0 2) (Q 3) (F 3) (A 3) (B 3) (D 3)) ++ ((uX8 cs (Q 0 3) (Q 4) (F 4) (A 4) (B 4) (D 4)) ++ ((uX3 cs (Q 4 0) (Q 5) (F 5) (A 5) (B 5) (D 5)) ++ ((uX5 cs (Q 0 6) (Q 6) (F 6) (A 6) (B 6) (D 6)) ++ ((uX5 cs (Q 0 7) (Q 7) (F 7) (A 7) (B 7) (D 7)) ++ ((uX0 cs (Q 0 8) (Q 8) (F 8) (A 8) (B 8) (D 8)) ++ ((uX1 cs (Q 0 9) (Q 9) (F 9) (A 9) (B 9) (D 9)) ++ ((uX4 cs (Q 0 10) (Q 10) (F 10) (A 10) (B 10) (D 10)) ++ ((uX2 cs (Q 0 11) (Q 11) (F 11) (A 11) (B 11) (D 11)) ++ ((uX7 cs (Q 0 20) (Q 12) (F 12) (A 12) (B 12) (D 12)) ++ ((uX7 cs (Q 0 21) (Q 13) (F 13) (A 13) (B 13) (D 13)) ++ ((uX7 cs (Q 0 22) (Q 14) (F 14) (A 14) (B 14) (D 14)) ++ ((uX7 cs (Q 0 23) (Q 15) (F 15) (A 15) (B 15) (D 15)) ++ ((uX8 cs (Q 0 30) (Q 16) (F 16) (A 16) (B 16) (D 16)) ++ ((uX3 cs (Q 16 0) (Q 17) (F 17) (A 17) (B 17) (D 17)) ++ ((uX8 cs (Q 0 31) (Q 18) (F 18) (A 18) (B 18) (D 18)) ++ ((uX3 cs (Q 18 0) (Q 19) (F 19) (A 19) (B 19) (D 19)) ++ ((uX8 cs (Q 0 32) (Q 20) (F 20) (A 20) (B 20) (D 20)) ++ ((uX3 cs (Q 20 0) (Q 21) (F 21) (A 21) (B 21) (D 21)) ++ ((uX5 cs (Q 8 10) (Q 22) (F 22) (A 22) (B 22) (D 22)) ++ ((uX5 cs (Q 8 11) (Q 23) (F 23) (A 23) (B 23) (D 23)) ++ ((uX5 cs (Q 8 12) (Q 24) (F 24) (A 24) (B 24) (D 24)) ++ ((uX5 cs (Q 8 13) (Q 25) (F 25) (A 25) (B 25) (D 25)) ++ ((uX5 cs (Q 8 14) (Q 26) (F 26) (A 26) (B 26) (D 26)) ++ (mS cs h2 q2 MF MA MD MB))))))))))))))))))))))))))) (runVD (As := [.int a1]) (rest := []) ⟨hx, hb, hml, hown, ht⟩ (sX10_end l G cs h1 (Q 0) (F 0) (A 0) (B 0) (D 0) hX.1 (Q 2) (F 2) (A 2) (B 2) (D 2) hX.2.2.1 a1) okV_RL_18 ⟨(Nat.le_of_ble_eq_true rfl), (Nat.le_of_ble_eq_true rfl)⟩ hK hP hD [0, 1, 2, 4, 5] rfl (by decide +kernel) rfl 0 rfl rfl hl.1 rfl (Nat.le_of_ble_eq_true rfl) dL_law_373 ⟨(Nat.le_of_ble_eq_true rfl), (Nat.le_of_ble_eq_true rfl)⟩) hP hD hS (fun _ h => h) [0, 1, 2, 4, 5] [3, 6, 7, 8, 9, 10, 11, 12, 13, 14, 15, 16, 17, 18, 19, 20, 21, 22, 23, 24, 25, 26, 27, 28, 29, 30, 31, 32, 33, 34, 35, 36, 37, 38, 39, 40, 41, 42, 43, 44, 45, 46, 47, 48, 49, 50, 51, 52, 53, 54, 55, 56, 57, 58, 59, 60, 61, 62, 63, 64, 65, 66, 67, 68, 69, 70, 71, 72, 73, 74, 75, 76, 77, 78, 79, 80, 81, 82, 83, 84, 85, 86, 87, 88, 89, 90, 91, 92, 93, 94, 95, 96, 97, 98, 99, 100, 101, 102, 103, 104, 105, 106, 107, 108, 109, 110, 111, 112, 113, 114, 115, 116, 117, 118, 119, 120] rfl rfl (by decide +kernel) (by decide +kernel) (fun r9 u H locs hu hP hD hS => ?_)
  obtain ⟨x2, rfl⟩ : ∃ z, z = u := ⟨_, rfl⟩
  obtain ⟨r1, rfl⟩ : ∃ z, z = r9 := ⟨_, rfl⟩
  obtain ⟨hbx2, hr1⟩ := hu
  have hbx2 : (0 : Int) ≤ x2.toInt ∧ x2.toInt ≤ 900 := hbx2
  have hP : va_P G vwCl (LW cs h1 Q h2 q2 (vA F 2 (upd (F 2) 1 x2)) A B D MF MA MD MB) H := hP.sub [116, 117, 118, 0, 119, 120, 1, 2, 3, 4, 5, 6, 7, 8, 9, 10, 11, 12, 13, 14, 15, 16, 17, 18, 19, 20, 21, 22, 23, 24, 25, 26, 27, 28, 29, 30, 31, 32, 33, 34, 35, 36, 37, 38, 39, 40, 41, 42, 43, 44, 45, 46, 47, 48, 49, 50, 51, 52, 53, 54, 55, 56, 57, 58, 59, 60, 61, 62, 63, 64, 65, 66, 67, 68, 69, 70, 71, 72, 73, 74, 75, 76, 77, 78, 79, 80, 81, 82, 83, 84, 85, 86, 87, 88, 89, 90, 91, 92, 93, 94, 95, 96, 97, 98, 99, 100, 101, 102, 103, 104, 105, 106, 107, 108, 109, 110, 111, 112, 113, 114, 115] rfl
  have hD : va_D (fun q : Nat => s.heap.size ≤ q) (LW cs h1 Q h2 q2 (vA F 2 (upd (F 2) 1 x2)) A B D MF MA MD MB) := hD.sub [116, 117, 118, 0, 119, 120, 1, 2, 3, 4, 5, 6, 7, 8, 9, 10, 11, 12, 13, 14, 15, 16, 17, 18, 19, 20, 21, 22, 23, 24, 25, 26, 27, 28, 29, 30, 31, 32, 33, 34, 35, 36, 37, 38, 39, 40, 41, 42, 43, 44, 45, 46, 47, 48, 49, 50, 51, 52, 53, 54, 55, 56, 57, 58, 59, 60, 61, 62, 63, 64, 65, 66, 67, 68, 69, 70, 71, 72, 73, 74, 75, 76, 77, 78, 79, 80, 81, 82, 83, 84, 85, 86, 87, 88, 89, 90, 91, 92, 93, 94, 95, 96, 97, 98, 99, 100, 101, 102, 103, 104, 105, 106, 107, 108, 109, 110, 111, 112, 113, 114, 115] (by decide +kernel) rfl
  refine lv_pop hx hb dL_law_376 rfl ?_
  refine lv_aload_n hx hb dL_law_377 rfl (lv_at hl 1 rfl) ?_
  refine lv_aload_n hx hb dL_law_378 rfl (lv_at hl 3 rfl) ?_
  refine lv_iload_n hx hb dL_law_379 rfl (lv_at hl 0 rfl) ?_
  refine lv_iconst (v := 1) hx hb dL_law_380 (by decide) ?_
  refine lv_iadd hx hb dL_law_381 ?_
  refine va_sld hx hb hXs hbl hbA hS (inK t1 (by omega) (by omega)) dL_law_382 ?_
  refine W.eq (g2 := F0 m 383 ls [.int a1, .ref h2]) (by rw [← ea1]) ?_
  refine behDi (wr := (XLW cs h1 Q (vA F 2 (upd (F 2) 1 x2)) A B D)) (runVD (As := [.int a1]) (rest := []) ⟨hx, hb, hml, hown, ht⟩ (sX11_end l G cs h2 q2 MF MA MD MB hM.1 a1) okV_RL_22 ⟨(Nat.le_of_ble_eq_true rfl), (Nat.le_of_ble_eq_true rfl)⟩ hK hP hD [101, 102, 103, 104, 105, 106, 107, 108, 109, 110, 111, 112, 113, 114, 115, 116, 117, 118, 119, 120] rfl (by decide +kernel) rfl 101 rfl rfl hl.1 rfl (Nat.le_of_ble_eq_true rfl) dL_law_383 ⟨(Nat.le_of_ble_eq_true rfl), (Nat.le_of_ble_eq_true rfl)⟩) hP hD hS (fun _ h => h) [101, 102, 103, 104, 105, 106, 107, 108, 109, 110, 111, 112, 113, 114, 115, 116, 117, 118, 119, 120] [0, 1, 2, 3, 4, 5, 6, 7, 8, 9, 10, 11, 12, 13, 14, 15, 16, 17, 18, 19, 20, 21, 22, 23, 24, 25, 26, 27, 28, 29, 30, 31, 32, 33, 34, 35, 36, 37, 38, 39, 40, 41, 42, 43, 44, 45, 46, 47, 48, 49, 50, 51, 52, 53, 54, 55, 56, 57, 58, 59, 60, 61, 62, 63, 64, 65, 66, 67, 68, 69, 70, 71, 72, 73, 74, 75, 76, 77, 78, 79, 80, 81, 82, 83, 84, 85, 86, 87, 88, 89, 90, 91, 92, 93, 94, 95, 96, 97, 98, 99, 100] rfl rfl (by decide +kernel) (by decide +kernel) (fun r9 u H locs hu hP hD hS => ?_)
  obtain ⟨x4, rfl⟩ : ∃ z, z = u := ⟨_, rfl⟩
  obtain ⟨r3, rfl⟩ : ∃ z, z = r9 := ⟨_, rfl⟩
  obtain ⟨hbx4, hr3⟩ := hu
  have hbx4 : (0 : Int) ≤ x4.toInt ∧ x4.toInt ≤ 900 := hbx4
  have hP : va_P G vwCl (LW cs h1 Q h2 q2 (vA F 2 (upd (F 2) 1 x2)) A B D (upd MF 5 x4) MA MD MB) H := hP
  have hD : va_D (fun q : Nat => s.heap.size ≤ q) (LW cs h1 Q h2 q2 (vA F 2 (upd (F 2) 1 x2)) A B D (upd MF 5 x4) MA MD MB) := hD
  refine lv_pop hx hb dL_law_386 rfl ?_
  refine lv_goto (tgt := 2156) hx hb dL_law_387 (by decide) ?_
  exact kk (vA F 2 (upd (F 2) 1 x2)) A B D (upd MF 5 x4) MA MD MB H locs ls ⟨hX.1, hX.2.1, (IB_put (k := 1) hX.2.2.1 (hbx2)), hX.2.2.2.1, hX.2.2.2.2.1, hX.2.2.2.2.2.1, hX.2.2.2.2.2.2.1, hX.2.2.2.2.2.2.2.1, hX.2.2.2.2.2.2.2.2.1, hX.2.2.2.2.2.2.2.2.2.1, hX.2.2.2.2.2.2.2.2.2.2.1, hX.2.2.2.2.2.2.2.2.2.2.2.1, hX.2.2.2.2.2.2.2.2.2.2.2.2.1, hX.2.2.2.2.2.2.2.2.2.2.2.2.2.1, hX.2.2.2.2.2.2.2.2.2.2.2.2.2.2.1, hX.2.2.2.2.2.2.2.2.2.2.2.2.2.2.2.1, hX.2.2.2.2.2.2.2.2.2.2.2.2.2.2.2.2.1, hX.2.2.2.2.2.2.2.2.2.2.2.2.2.2.2.2.2.1, hX.2.2.2.2.2.2.2.2.2.2.2.2.2.2.2.2.2.2.1, hX.2.2.2.2.2.2.2.2.2.2.2.2.2.2.2.2.2.2.2.1, hX.2.2.2.2.2.2.2.2.2.2.2.2.2.2.2.2.2.2.2.2.1, hX.2.2.2.2.2.2.2.2.2.2.2.2.2.2.2.2.2.2.2.2.2.1, hX.2.2.2.2.2.2.2.2.2.2.2.2.2.2.2.2.2.2.2.2.2.2.1, hX.2.2.2.2.2.2.2.2.2.2.2.2.2.2.2.2.2.2.2.2.2.2.2.1, hX.2.2.2.2.2.2.2.2.2.2.2.2.2.2.2.2.2.2.2.2.2.2.2.2.1, hX.2.2.2.2.2.2.2.2.2.2.2.2.2.2.2.2.2.2.2.2.2.2.2.2.2.1, hX.2.2.2.2.2.2.2.2.2.2.2.2.2.2.2.2.2.2.2.2.2.2.2.2.2.2⟩ ⟨(IM_put (k := 5) hM.1 (hbx4)), hM.2.1, hM.2.2⟩ hR hP hD hS hl

set_option maxRecDepth 100000 in
set_option maxHeartbeats 16000000 in
theorem law_2 {p : Program} {l : Launch} {e : Env} {s : State} {m : MethodId} {below : List Frame} {meth : Method} {c : Code} {b L : Nat} {xs : Nat → Int32} {G : va_G} {cs : Nat → ClassId} {h1 : Nat} {Q : Nat → Nat → Nat} {h2 : Nat} {q2 : Nat → Nat} {sd : Nat → Nat × Nat} {i : Int32} : LCase p l e s m below meth c b G cs h1 Q h2 q2 i L xs sd 2 := by
  intro C0 hL hK hQ hQM hi0 hi6 kk F A B D MF MA MD MB H locs ls hX hM hR hP hD hS hl
  obtain ⟨hx, hb, hr, hml, hown, hts, hXs, hbl, hlocks, hgv⟩ := id C0
  have hown : s.vm.findClass RL = some m.cls := hown
  have ht : ∀ w ∈ tb, w.before #[Value.ref b] s = true := fun w h => hts w (List.mem_filter.mp h).1
  have hbA : ¬ (fun q : Nat => s.heap.size ≤ q) b := Nat.not_le.mpr hbl
  refine lv_tableIn (off := 357) (tgt := 390) hx hb dL_law_33 (by decide) (by decide) (by decide) (by decide) ?_
  refine lv_aload_n hx hb dL_law_390 rfl (lv_at hl 2 rfl) ?_
  refine behDi (wr := ((uX5 cs (Q 0 7) (Q 7) (F 7) (A 7) (B 7) (D 7)) ++ ((uX0 cs (Q 0 8) (Q 8) (F 8) (A 8) (B 8) (D 8)) ++ ((uX1 cs (Q 0 9) (Q 9) (F 9) (A 9) (B 9) (D 9)) ++ ((uX4 cs (Q 0 10) (Q 10) (F 10) (A 10) (B 10) (D 10)) ++ ((uX2 cs (Q 0 11) (Q 11) (F 11) (A 11) (B 11) (D 11)) ++ ((uX7 cs (Q 0 20) (Q 12) (F 12) (A 12) (B 12) (D 12)) ++ ((uX7 cs (Q 0 21) (Q 13) (F 13) (A 13) (B 13) (D 13)) ++ ((uX7 cs (Q 0 22) (Q 14) (F 14) (A 14) (B 14) (D 14)) ++ ((uX7 cs (Q 0 23) (Q 15) (F 15) (A 15) (B 15) (D 15)) ++ ((uX8 cs (Q 0 30) (Q 16) (F 16) (A 16) (B 16) (D 16)) ++ ((uX3 cs (Q 16 0) (Q 17) (F 17) (A 17) (B 17) (D 17)) ++ ((uX8 cs (Q 0 31) (Q 18) (F 18) (A 18) (B 18) (D 18)) ++ ((uX3 cs (Q 18 0) (Q 19) (F 19) (A 19) (B 19) (D 19)) ++ ((uX8 cs (Q 0 32) (Q 20) (F 20) (A 20) (B 20) (D 20)) ++ ((uX3 cs (Q 20 0) (Q 21) (F 21) (A 21) (B 21) (D 21)) ++ ((uX5 cs (Q 8 10) (Q 22) (F 22) (A 22) (B 22) (D 22)) ++ ((uX5 cs (Q 8 11) (Q 23) (F 23) (A 23) (B 23) (D 23)) ++ ((uX5 cs (Q 8 12) (Q 24) (F 24) (A 24) (B 24) (D 24)) ++ ((uX5 cs (Q 8 13) (Q 25) (F 25) (A 25) (B 25) (D 25)) ++ ((uX5 cs (Q 8 14) (Q 26) (F 26) (A 26) (B 26) (D 26)) ++ (mS cs h2 q2 MF MA MD MB)))))))))))))))))))))) (runVDS (As := []) (rest := []) ⟨hx, hb, hml, hown, ht⟩ (sX10_house l G cs sd h1 (Q 0) (F 0) (A 0) (B 0) (D 0) hX.1 (F 1) (A 1) (B 1) (D 1) hX.2.1 (Q 2) (F 2) (A 2) (B 2) (D 2) hX.2.2.1 (Q 3) (F 3) (A 3) (B 3) (D 3) hX.2.2.2.1 (Q 4) (F 4) (A 4) (B 4) (D 4) hX.2.2.2.2.1 (Q 5) (F 5) (A 5) (B 5) (D 5) hX.2.2.2.2.2.1 (Q 6) (F 6) (A 6) (B 6) (D 6) hX.2.2.2.2.2.2.1) okV_RL_23 ⟨(Nat.le_of_ble_eq_true rfl), (Nat.le_of_ble_eq_true rfl)⟩ hK hP hD hQ hS (fun _ h => h) [0, 1, 2, 3, 4, 5, 6, 7, 8, 9, 10, 11, 12, 13, 14, 15, 16, 17, 18, 19, 20, 21, 22, 23, 24, 25, 26] rfl (by decide +kernel) rfl 0 rfl rfl hl.1 rfl (Nat.le_of_ble_eq_true rfl) dL_law_391 ⟨(Nat.le_of_ble_eq_true rfl), (Nat.le_of_ble_eq_true rfl)⟩) hP hD hS (fun _ h => h) [0, 1, 2, 3, 4, 5, 6, 7, 8, 9, 10, 11, 12, 13, 14, 15, 16, 17, 18, 19, 20, 21, 22, 23, 24, 25, 26] [27, 28, 29, 30, 31, 32, 33, 34, 35, 36, 37, 38, 39, 40, 41, 42, 43, 44, 45, 46, 47, 48, 49, 50, 51, 52, 53, 54, 55, 56, 57, 58, 59, 60, 61, 62, 63, 64, 65, 66, 67, 68, 69, 70, 71, 72, 73, 74, 75, 76, 77, 78, 79, 80, 81, 82, 83, 84, 85, 86, 87, 88, 89, 90, 91, 92, 93, 94, 95, 96, 97, 98, 99, 100, 101, 102, 103, 104, 105, 106, 107, 108, 109, 110, 111, 112, 113, 114, 115, 116, 117, 118, 119, 120] rfl rfl (by decide +kernel) (by decide +kernel) (fun r9 u H locs hu hP hD hS => ?_)
  obtain ⟨x2, x3, x4, x5, x6, x7, x8, x9, x10, x11, x12, x13, x14, x15, x16, x17, x18, x19, x20, x21, x22, x23, x24, x25, g26, g27, g28, g29, g30, g31, g32, g33, g34, g35, g36, g37, g38, g39, g40, g41⟩ := u
  obtain ⟨r1, rfl⟩ : ∃ z, z = r9 := ⟨_, rfl⟩
  obtain ⟨hbx7, hbx8, hbx14, hbx15, hbx18, hbx19, hbx20, hbx24, hbx25, hg29, hg31, hg36, hg38, hr1⟩ := hu
  have hbx7 : (0 : Int) ≤ x7.toInt ∧ x7.toInt ≤ 7 := hbx7
  have hbx8 : (0 : Int) ≤ x8.toInt ∧ x8.toInt ≤ 6 := hbx8
  have hbx14 : (0 : Int) ≤ x14.toInt ∧ x14.toInt ≤ 7 := hbx14
  have hbx15 : (0 : Int) ≤ x15.toInt ∧ x15.toInt ≤ 6 := hbx15
  have hbx18 : (0 : Int) ≤ x18.toInt ∧ x18.toInt ≤ 900 := hbx18
  have hbx19 : (0 : Int) ≤ x19.toInt ∧ x19.toInt ≤ 4 := hbx19
  have hbx20 : (0 : Int) ≤ x20.toInt ∧ x20.toInt ≤ 900 := hbx20
  have hbx24 : (0 : Int) ≤ x24.toInt ∧ x24.toInt ≤ 60 := hbx24
  have hbx25 : (0 : Int) ≤ x25.toInt ∧ x25.toInt ≤ 900 := hbx25
  have hg29 : AJ (0) 127 g29 := hg29
  have hg31 : AJ (0) 63 g31 := hg31
  have hg36 : AJ (0) 127 g36 := hg36
  have hg38 : AJ (0) 63 g38 := hg38
  have hP : va_P G vwCl (LW cs h1 Q h2 q2 (vA (vA (vA (vA (vA (vA F 1 (upd (upd (upd (upd (upd (upd (F 1) 1 x18) 2 x19) 3 x20) 4 x21) 5 x22) 6 x23)) 2 (upd (F 2) 1 x25)) 3 (upd (upd (upd (upd (upd (upd (upd (F 3) 0 x2) 1 x3) 2 x4) 3 x5) 4 x6) 5 x7) 6 x8)) 4 (upd (F 4) 2 x24)) 5 (upd (upd (upd (upd (upd (upd (upd (F 5) 0 x9) 1 x10) 2 x11) 3 x12) 4 x13) 5 x14) 6 x15)) 6 (upd (upd (F 6) 2 x16) 3 x17)) (vA (vA (vA A 3 (vA (vA (vA (vA (vA (vA (vA (A 3) 7 g26) 8 g27) 9 g28) 10 g29) 11 g30) 12 g31) 13 g32)) 5 (vA (vA (vA (vA (vA (vA (vA (A 5) 7 g33) 8 g34) 9 g35) 10 g36) 11 g37) 12 g38) 13 g39)) 6 (vA (vA (A 6) 0 g40) 1 g41)) B D MF MA MD MB) H := hP.sub [94, 95, 96, 97, 98, 99, 100, 101, 102, 103, 104, 105, 106, 107, 108, 109, 110, 111, 112, 113, 114, 115, 116, 117, 118, 119, 120, 0, 1, 2, 3, 4, 5, 6, 7, 8, 9, 10, 11, 12, 13, 14, 15, 16, 17, 18, 19, 20, 21, 22, 23, 24, 25, 26, 27, 28, 29, 30, 31, 32, 33, 34, 35, 36, 37, 38, 39, 40, 41, 42, 43, 44, 45, 46, 47, 48, 49, 50, 51, 52, 53, 54, 55, 56, 57, 58, 59, 60, 61, 62, 63, 64, 65, 66, 67, 68, 69, 70, 71, 72, 73, 74, 75, 76, 77, 78, 79, 80, 81, 82, 83, 84, 85, 86, 87, 88, 89, 90, 91, 92, 93] rfl
  have hD : va_D (fun q : Nat => s.heap.size ≤ q) (LW cs h1 Q h2 q2 (vA (vA (vA (vA (vA (vA F 1 (upd (upd (upd (upd (upd (upd (F 1) 1 x18) 2 x19) 3 x20) 4 x21) 5 x22) 6 x23)) 2 (upd (F 2) 1 x25)) 3 (upd (upd (upd (upd (upd (upd (upd (F 3) 0 x2) 1 x3) 2 x4) 3 x5) 4 x6) 5 x7) 6 x8)) 4 (upd (F 4) 2 x24)) 5 (upd (upd (upd (upd (upd (upd (upd (F 5) 0 x9) 1 x10) 2 x11) 3 x12) 4 x13) 5 x14) 6 x15)) 6 (upd (upd (F 6) 2 x16) 3 x17)) (vA (vA (vA A 3 (vA (vA (vA (vA (vA (vA (vA (A 3) 7 g26) 8 g27) 9 g28) 10 g29) 11 g30) 12 g31) 13 g32)) 5 (vA (vA (vA (vA (vA (vA (vA (A 5) 7 g33) 8 g34) 9 g35) 10 g36) 11 g37) 12 g38) 13 g39)) 6 (vA (vA (A 6) 0 g40) 1 g41)) B D MF MA MD MB) := hD.sub [94, 95, 96, 97, 98, 99, 100, 101, 102, 103, 104, 105, 106, 107, 108, 109, 110, 111, 112, 113, 114, 115, 116, 117, 118, 119, 120, 0, 1, 2, 3, 4, 5, 6, 7, 8, 9, 10, 11, 12, 13, 14, 15, 16, 17, 18, 19, 20, 21, 22, 23, 24, 25, 26, 27, 28, 29, 30, 31, 32, 33, 34, 35, 36, 37, 38, 39, 40, 41, 42, 43, 44, 45, 46, 47, 48, 49, 50, 51, 52, 53, 54, 55, 56, 57, 58, 59, 60, 61, 62, 63, 64, 65, 66, 67, 68, 69, 70, 71, 72, 73, 74, 75, 76, 77, 78, 79, 80, 81, 82, 83, 84, 85, 86, 87, 88, 89, 90, 91, 92, 93] (by decide +kernel) rfl
  refine lv_pop hx hb dL_law_394 rfl ?_
  refine lv_aload_n hx hb dL_law_395 rfl (lv_at hl 1 rfl) ?_
  refine behDi (wr := (XLW cs h1 Q (vA (vA (vA (vA (vA (vA F 1 (upd (upd (upd (upd (upd (upd (F 1) 1 x18) 2 x19) 3 x20) 4 x21) 5 x22) 6 x23)) 2 (upd (F 2) 1 x25)) 3 (upd (upd (upd (upd (upd (upd (upd (F 3) 0 x2) 1 x3) 2 x4) 3 x5) 4 x6) 5 x7) 6 x8)) 4 (upd (F 4) 2 x24)) 5 (upd (upd (upd (upd (upd (upd (upd (F 5) 0 x9) 1 x10) 2 x11) 3 x12) 4 x13) 5 x14) 6 x15)) 6 (upd (upd (F 6) 2 x16) 3 x17)) (vA (vA (vA A 3 (vA (vA (vA (vA (vA (vA (vA (A 3) 7 g26) 8 g27) 9 g28) 10 g29) 11 g30) 12 g31) 13 g32)) 5 (vA (vA (vA (vA (vA (vA (vA (A 5) 7 g33) 8 g34) 9 g35) 10 g36) 11 g37) 12 g38) 13 g39)) 6 (vA (vA (A 6) 0 g40) 1 g41)) B D)) (runVDS (As := []) (rest := []) ⟨hx, hb, hml, hown, ht⟩ (sX11_house l G cs sd h2 q2 MF MA MD MB hM.1  hM.2.1) okV_RL_27 ⟨(Nat.le_of_ble_eq_true rfl), (Nat.le_of_ble_eq_true rfl)⟩ hK hP hD hQM hS (fun _ h => h) [101, 102, 103, 104, 105, 106, 107, 108, 109, 110, 111, 112, 113, 114, 115, 116, 117, 118, 119, 120] rfl (by decide +kernel) rfl 101 rfl rfl hl.1 rfl (Nat.le_of_ble_eq_true rfl) dL_law_396 ⟨(Nat.le_of_ble_eq_true rfl), (Nat.le_of_ble_eq_true rfl)⟩) hP hD hS (fun _ h => h) [101, 102, 103, 104, 105, 106, 107, 108, 109, 110, 111, 112, 113, 114, 115, 116, 117, 118, 119, 120] [0, 1, 2, 3, 4, 5, 6, 7, 8, 9, 10, 11, 12, 13, 14, 15, 16, 17, 18, 19, 20, 21, 22, 23, 24, 25, 26, 27, 28, 29, 30, 31, 32, 33, 34, 35, 36, 37, 38, 39, 40, 41, 42, 43, 44, 45, 46, 47, 48, 49, 50, 51, 52, 53, 54, 55, 56, 57, 58, 59, 60, 61, 62, 63, 64, 65, 66, 67, 68, 69, 70, 71, 72, 73, 74, 75, 76, 77, 78, 79, 80, 81, 82, 83, 84, 85, 86, 87, 88, 89, 90, 91, 92, 93, 94, 95, 96, 97, 98, 99, 100] rfl rfl (by decide +kernel) (by decide +kernel) (fun r9 u H locs hu hP hD hS => ?_)
  obtain ⟨x43, x44, x45, x46, x47, x48, x49, x50, g51, g52⟩ := u
  obtain ⟨r42, rfl⟩ : ∃ z, z = r9 := ⟨_, rfl⟩
  obtain ⟨hbx43, hbx44, hbx45, hbx46, hbx47, hbx48, hbx49, hbx50, hg51, hg52, hr42⟩ := hu
  have hbx43 : (0 : Int) ≤ x43.toInt ∧ x43.toInt ≤ 900 := hbx43
  have hbx44 : (0 : Int) ≤ x44.toInt ∧ x44.toInt ≤ 900 := hbx44
  have hbx45 : (0 : Int) ≤ x45.toInt ∧ x45.toInt ≤ 900 := hbx45
  have hbx46 : (0 : Int) ≤ x46.toInt ∧ x46.toInt ≤ 900 := hbx46
  have hbx47 : (0 : Int) ≤ x47.toInt ∧ x47.toInt ≤ 4 := hbx47
  have hbx48 : (0 : Int) ≤ x48.toInt ∧ x48.toInt ≤ 99999 := hbx48
  have hbx49 : (0 : Int) ≤ x49.toInt ∧ x49.toInt ≤ 3 := hbx49
  have hbx50 : (-1 : Int) ≤ x50.toInt ∧ x50.toInt ≤ 900 := hbx50
  have hg51 : AI 1 g51 := hg51
  have hg52 : AI 14 g52 := hg52
  have hr42 : WG g51 := hr42
  have hP : va_P G vwCl (LW cs h1 Q h2 q2 (vA (vA (vA (vA (vA (vA F 1 (upd (upd (upd (upd (upd (upd (F 1) 1 x18) 2 x19) 3 x20) 4 x21) 5 x22) 6 x23)) 2 (upd (F 2) 1 x25)) 3 (upd (upd (upd (upd (upd (upd (upd (F 3) 0 x2) 1 x3) 2 x4) 3 x5) 4 x6) 5 x7) 6 x8)) 4 (upd (F 4) 2 x24)) 5 (upd (upd (upd (upd (upd (upd (upd (F 5) 0 x9) 1 x10) 2 x11) 3 x12) 4 x13) 5 x14) 6 x15)) 6 (upd (upd (F 6) 2 x16) 3 x17)) (vA (vA (vA A 3 (vA (vA (vA (vA (vA (vA (vA (A 3) 7 g26) 8 g27) 9 g28) 10 g29) 11 g30) 12 g31) 13 g32)) 5 (vA (vA (vA (vA (vA (vA (vA (A 5) 7 g33) 8 g34) 9 g35) 10 g36) 11 g37) 12 g38) 13 g39)) 6 (vA (vA (A 6) 0 g40) 1 g41)) B D (upd (upd (upd (upd (upd (upd (upd (upd MF 5 x43) 7 x44) 8 x45) 9 x46) 10 x47) 11 x48) 12 x49) 13 x50) (vA (vA MA 1 g51) 14 g52) MD MB) H := hP
  have hD : va_D (fun q : Nat => s.heap.size ≤ q) (LW cs h1 Q h2 q2 (vA (vA (vA (vA (vA (vA F 1 (upd (upd (upd (upd (upd (upd (F 1) 1 x18) 2 x19) 3 x20) 4 x21) 5 x22) 6 x23)) 2 (upd (F 2) 1 x25)) 3 (upd (upd (upd (upd (upd (upd (upd (F 3) 0 x2) 1 x3) 2 x4) 3 x5) 4 x6) 5 x7) 6 x8)) 4 (upd (F 4) 2 x24)) 5 (upd (upd (upd (upd (upd (upd (upd (F 5) 0 x9) 1 x10) 2 x11) 3 x12) 4 x13) 5 x14) 6 x15)) 6 (upd (upd (F 6) 2 x16) 3 x17)) (vA (vA (vA A 3 (vA (vA (vA (vA (vA (vA (vA (A 3) 7 g26) 8 g27) 9 g28) 10 g29) 11 g30) 12 g31) 13 g32)) 5 (vA (vA (vA (vA (vA (vA (vA (A 5) 7 g33) 8 g34) 9 g35) 10 g36) 11 g37) 12 g38) 13 g39)) 6 (vA (vA (A 6) 0 g40) 1 g41)) B D (upd (upd (upd (upd (upd (upd (upd (upd MF 5 x43) 7 x44) 8 x45) 9 x46) 10 x47) 11 x48) 12 x49) 13 x50) (vA (vA MA 1 g51) 14 g52) MD MB) := hD
  refine lv_pop hx hb dL_law_399 rfl ?_
  refine lv_goto (tgt := 2156) hx hb dL_law_400 (by decide) ?_
  exact kk (vA (vA (vA (vA (vA (vA F 1 (upd (upd (upd (upd (upd (upd (F 1) 1 x18) 2 x19) 3 x20) 4 x21) 5 x22) 6 x23)) 2 (upd (F 2) 1 x25)) 3 (upd (upd (upd (upd (upd (upd (upd (F 3) 0 x2) 1 x3) 2 x4) 3 x5) 4 x6) 5 x7) 6 x8)) 4 (upd (F 4) 2 x24)) 5 (upd (upd (upd (upd (upd (upd (upd (F 5) 0 x9) 1 x10) 2 x11) 3 x12) 4 x13) 5 x14) 6 x15)) 6 (upd (upd (F 6) 2 x16) 3 x17)) (vA (vA (vA A 3 (vA (vA (vA (vA (vA (vA (vA (A 3) 7 g26) 8 g27) 9 g28) 10 g29) 11 g30) 12 g31) 13 g32)) 5 (vA (vA (vA (vA (vA (vA (vA (A 5) 7 g33) 8 g34) 9 g35) 10 g36) 11 g37) 12 g38) 13 g39)) 6 (vA (vA (A 6) 0 g40) 1 g41)) B D (upd (upd (upd (upd (upd (upd (upd (upd MF 5 x43) 7 x44) 8 x45) 9 x46) 10 x47) 11 x48) 12 x49) 13 x50) (vA (vA MA 1 g51) 14 g52) MD MB H locs ls ⟨hX.1, (IB_put (k := 6) (IB_put (k := 5) (IB_put (k := 4) (IB_put (k := 3) (IB_put (k := 2) (IB_put (k := 1) hX.2.1 (hbx18)) (hbx19)) (hbx20)) (i32b _)) (i32b _)) (i32b _)), (IB_put (k := 1) hX.2.2.1 (hbx25)), (IB_arr (k := 13) (IB_arr (k := 12) (IB_arr (k := 11) (IB_arr (k := 10) (IB_arr (k := 9) (IB_arr (k := 8) (IB_arr (k := 7) (IB_put (k := 6) (IB_put (k := 5) (IB_put (k := 4) (IB_put (k := 3) (IB_put (k := 2) (IB_put (k := 1) (IB_put (k := 0) hX.2.2.2.1 (i32b _)) (i32b _)) (i32b _)) (i32b _)) (i32b _)) (hbx7)) (hbx8)) (AJ_full _)) (AJ_full _)) (AJ_full _)) hg29) (AJ_full _)) hg31) (AJ_full _)), (IB_put (k := 2) hX.2.2.2.2.1 (hbx24)), (IB_arr (k := 13) (IB_arr (k := 12) (IB_arr (k := 11) (IB_arr (k := 10) (IB_arr (k := 9) (IB_arr (k := 8) (IB_arr (k := 7) (IB_put (k := 6) (IB_put (k := 5) (IB_put (k := 4) (IB_put (k := 3) (IB_put (k := 2) (IB_put (k := 1) (IB_put (k := 0) hX.2.2.2.2.2.1 (i32b _)) (i32b _)) (i32b _)) (i32b _)) (i32b _)) (hbx14)) (hbx15)) (AJ_full _)) (AJ_full _)) (AJ_full _)) hg36) (AJ_full _)) hg38) (AJ_full _)), (IB_arr (k := 1) (IB_arr (k := 0) (IB_put (k := 3) (IB_put (k := 2) hX.2.2.2.2.2.2.1 (i32b _)) (i32b _)) (AJ_full _)) (AJ_full _)), hX.2.2.2.2.2.2.2.1, hX.2.2.2.2.2.2.2.2.1, hX.2.2.2.2.2.2.2.2.2.1, hX.2.2.2.2.2.2.2.2.2.2.1, hX.2.2.2.2.2.2.2.2.2.2.2.1, hX.2.2.2.2.2.2.2.2.2.2.2.2.1, hX.2.2.2.2.2.2.2.2.2.2.2.2.2.1, hX.2.2.2.2.2.2.2.2.2.2.2.2.2.2.1, hX.2.2.2.2.2.2.2.2.2.2.2.2.2.2.2.1, hX.2.2.2.2.2.2.2.2.2.2.2.2.2.2.2.2.1, hX.2.2.2.2.2.2.2.2.2.2.2.2.2.2.2.2.2.1, hX.2.2.2.2.2.2.2.2.2.2.2.2.2.2.2.2.2.2.1, hX.2.2.2.2.2.2.2.2.2.2.2.2.2.2.2.2.2.2.2.1, hX.2.2.2.2.2.2.2.2.2.2.2.2.2.2.2.2.2.2.2.2.1, hX.2.2.2.2.2.2.2.2.2.2.2.2.2.2.2.2.2.2.2.2.2.1, hX.2.2.2.2.2.2.2.2.2.2.2.2.2.2.2.2.2.2.2.2.2.2.1, hX.2.2.2.2.2.2.2.2.2.2.2.2.2.2.2.2.2.2.2.2.2.2.2.1, hX.2.2.2.2.2.2.2.2.2.2.2.2.2.2.2.2.2.2.2.2.2.2.2.2.1, hX.2.2.2.2.2.2.2.2.2.2.2.2.2.2.2.2.2.2.2.2.2.2.2.2.2.1, hX.2.2.2.2.2.2.2.2.2.2.2.2.2.2.2.2.2.2.2.2.2.2.2.2.2.2⟩ ⟨(IM_arr (k := 14) (IM_arr (k := 1) (IM_put (k := 13) (IM_put (k := 12) (IM_put (k := 11) (IM_put (k := 10) (IM_put (k := 9) (IM_put (k := 8) (IM_put (k := 7) (IM_put (k := 5) hM.1 (hbx43)) (hbx44)) (hbx45)) (hbx46)) (hbx47)) (hbx48)) (hbx49)) (hbx50)) hg51) hg52), hr42, hM.2.2⟩ hR hP hD hS hl

set_option maxRecDepth 100000 in
set_option maxHeartbeats 16000000 in
theorem law_3 {p : Program} {l : Launch} {e : Env} {s : State} {m : MethodId} {below : List Frame} {meth : Method} {c : Code} {b L : Nat} {xs : Nat → Int32} {G : va_G} {cs : Nat → ClassId} {h1 : Nat} {Q : Nat → Nat → Nat} {h2 : Nat} {q2 : Nat → Nat} {sd : Nat → Nat × Nat} {i : Int32} : LCase p l e s m below meth c b G cs h1 Q h2 q2 i L xs sd 3 := by
  intro C0 hL hK hQ hQM hi0 hi6 kk F A B D MF MA MD MB H locs ls hX hM hR hP hD hS hl
  obtain ⟨hx, hb, hr, hml, hown, hts, hXs, hbl, hlocks, hgv⟩ := id C0
  have hown : s.vm.findClass RL = some m.cls := hown
  have ht : ∀ w ∈ tb, w.before #[Value.ref b] s = true := fun w h => hts w (List.mem_filter.mp h).1
  have hbA : ¬ (fun q : Nat => s.heap.size ≤ q) b := Nat.not_le.mpr hbl
  have t1 : (i + 1).toInt = i.toInt + 1 := addT rfl (by decide) (by omega)
  obtain ⟨a1, ea1⟩ : ∃ z : Int32, z = xs (i + 1).toNatClampNeg := ⟨_, rfl⟩
  refine lv_tableIn (off := 370) (tgt := 403) hx hb dL_law_33 (by decide) (by decide) (by decide) (by decide) ?_
  refine lv_aload_n hx hb dL_law_403 rfl (lv_at hl 2 rfl) ?_
  refine lv_aload_n hx hb dL_law_404 rfl (lv_at hl 3 rfl) ?_
  refine lv_iload_n hx hb dL_law_405 rfl (lv_at hl 0 rfl) ?_
  refine lv_iconst (v := 1) hx hb dL_law_406 (by decide) ?_
  refine lv_iadd hx hb dL_law_407 ?_
  refine va_sld hx hb hXs hbl hbA hS (inK t1 (by omega) (by omega)) dL_law_408 ?_
  refine W.eq (g2 := F0 m 409 ls [.int a1, .ref h1]) (by rw [← ea1]) ?_
  refine behR (runVP (As := [.int a1]) (rest := []) ⟨hx, hb, hml, hown, ht⟩ (sX10_fault l G cs h1 (Q 0) (F 0) (A 0) (B 0) (D 0) hX.1 (F 1) (A 1) (B 1) (D 1) hX.2.1 a1) okV_RL_28 ⟨(Nat.le_of_ble_eq_true rfl), (Nat.le_of_ble_eq_true rfl)⟩ hK hP [0, 1, 2, 3] rfl 0 rfl rfl hl.1 rfl (Nat.le_of_ble_eq_true rfl) dL_law_409 ⟨(Nat.le_of_ble_eq_true rfl), (Nat.le_of_ble_eq_true rfl)⟩) hP hS (fun _ h => h) (fun r1 H locs hr1 hP hS => ?_)
  refine lv_pop hx hb dL_law_412 rfl ?_
  refine lv_aload_n hx hb dL_law_413 rfl (lv_at hl 1 rfl) ?_
  refine lv_aload_n hx hb dL_law_414 rfl (lv_at hl 3 rfl) ?_
  refine lv_iload_n hx hb dL_law_415 rfl (lv_at hl 0 rfl) ?_
  refine lv_iconst (v := 1) hx hb dL_law_416 (by decide) ?_
  refine lv_iadd hx hb dL_law_417 ?_
  refine va_sld hx hb hXs hbl hbA hS (inK t1 (by omega) (by omega)) dL_law_418 ?_
  refine W.eq (g2 := F0 m 419 ls [.int a1, .ref h2]) (by rw [← ea1]) ?_
  refine behR (runVP (As := [.int a1]) (rest := []) ⟨hx, hb, hml, hown, ht⟩ (sX11_fault l G cs h2 q2 MF MA MD MB hM.1 a1) okV_RL_31 ⟨(Nat.le_of_ble_eq_true rfl), (Nat.le_of_ble_eq_true rfl)⟩ hK hP [101, 102, 103, 104, 105, 106, 107, 108, 109, 110, 111, 112, 113, 114, 115, 116, 117, 118, 119, 120] rfl 101 rfl rfl hl.1 rfl (Nat.le_of_ble_eq_true rfl) dL_law_419 ⟨(Nat.le_of_ble_eq_true rfl), (Nat.le_of_ble_eq_true rfl)⟩) hP hS (fun _ h => h) (fun r2 H locs hr2 hP hS => ?_)
  refine lv_pop hx hb dL_law_422 rfl ?_
  refine lv_goto (tgt := 2156) hx hb dL_law_423 (by decide) ?_
  exact kk F A B D MF MA MD MB H locs ls ⟨hX.1, hX.2.1, hX.2.2.1, hX.2.2.2.1, hX.2.2.2.2.1, hX.2.2.2.2.2.1, hX.2.2.2.2.2.2.1, hX.2.2.2.2.2.2.2.1, hX.2.2.2.2.2.2.2.2.1, hX.2.2.2.2.2.2.2.2.2.1, hX.2.2.2.2.2.2.2.2.2.2.1, hX.2.2.2.2.2.2.2.2.2.2.2.1, hX.2.2.2.2.2.2.2.2.2.2.2.2.1, hX.2.2.2.2.2.2.2.2.2.2.2.2.2.1, hX.2.2.2.2.2.2.2.2.2.2.2.2.2.2.1, hX.2.2.2.2.2.2.2.2.2.2.2.2.2.2.2.1, hX.2.2.2.2.2.2.2.2.2.2.2.2.2.2.2.2.1, hX.2.2.2.2.2.2.2.2.2.2.2.2.2.2.2.2.2.1, hX.2.2.2.2.2.2.2.2.2.2.2.2.2.2.2.2.2.2.1, hX.2.2.2.2.2.2.2.2.2.2.2.2.2.2.2.2.2.2.2.1, hX.2.2.2.2.2.2.2.2.2.2.2.2.2.2.2.2.2.2.2.2.1, hX.2.2.2.2.2.2.2.2.2.2.2.2.2.2.2.2.2.2.2.2.2.1, hX.2.2.2.2.2.2.2.2.2.2.2.2.2.2.2.2.2.2.2.2.2.2.1, hX.2.2.2.2.2.2.2.2.2.2.2.2.2.2.2.2.2.2.2.2.2.2.2.1, hX.2.2.2.2.2.2.2.2.2.2.2.2.2.2.2.2.2.2.2.2.2.2.2.2.1, hX.2.2.2.2.2.2.2.2.2.2.2.2.2.2.2.2.2.2.2.2.2.2.2.2.2.1, hX.2.2.2.2.2.2.2.2.2.2.2.2.2.2.2.2.2.2.2.2.2.2.2.2.2.2⟩ ⟨hM.1, hM.2.1, hM.2.2⟩ hR hP hD hS hl

