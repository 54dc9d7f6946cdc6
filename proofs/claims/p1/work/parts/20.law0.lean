set_option maxRecDepth 100000 in
set_option maxHeartbeats 8000000 in
theorem law_0 {p : Program} {e : Env} {s : State} {m : MethodId} {below : List Frame} {meth : Method} {c : Code} (l : Launch) {b : Nat} {xs : Nat → Int32} {G : va_G} {cs : Nat → ClassId} {h1 h2 : Nat} {q1 q2 : Nat → Nat} {H : Heap} {locs : List Loc} {ls : Array Slot} (C0 : lw_At p s m meth c b 6 xs) (hK : KK G (TY cs) s) (hP : va_P G vwCl (xW cs h1 q1 ++ mW cs h2 q2) H) (hD : va_D (fun q : Nat => s.heap.size ≤ q) (xW cs h1 q1 ++ mW cs h2 q2)) (hS : va_S (fun q : Nat => s.heap.size ≤ q) s.heap H locs) (hl : lv_has ls 4 [(3, .int 0), (2, .ref h2), (1, .ref h1), (0, .ref b)]) : W p l e room_1 s m #[Value.ref b] below meth c H locs 121 26756 (lw_Z below #[Value.ref b] s) (F0 m 33 ls [.int 0]) := by
  obtain ⟨hx, hb, hr, hml, hown, hts, hX, hbl, hlocks, hgv⟩ := id C0
  have hown : s.vm.findClass RL = some m.cls := hown
  have ht : ∀ w ∈ tb, w.before #[Value.ref b] s = true := fun w h => hts w (List.mem_filter.mp h).1
  have hbA : ¬ (fun q : Nat => s.heap.size ≤ q) b := Nat.not_le.mpr hbl
  have hP := hP.sub (ws' := [(xc0 cs h1 q1), (xc2 cs h1 q1), (xc3 cs h1 q1), (mc0 cs h2 q2), (mc4 cs h2 q2), (mc6 cs h2 q2)]) [0, 2, 3, 64, 68, 69] rfl
  have hD := hD.sub (ws' := [(xc0 cs h1 q1), (xc2 cs h1 q1), (xc3 cs h1 q1), (mc0 cs h2 q2), (mc4 cs h2 q2), (mc6 cs h2 q2)]) [0, 2, 3, 64, 68, 69] (by decide) rfl
  refine lv_tableIn (off := 271) (tgt := 304) hx hb dL_law_33 (by decide) (by decide) (by decide) (by decide) ?_
  refine lv_aload_n hx hb dL_law_304 rfl (lv_at hl 2 rfl) ?_
  refine lv_aload_n hx hb dL_law_305 rfl (lv_at hl 3 rfl) ?_
  refine lv_iload_n hx hb dL_law_306 rfl (lv_at hl 0 rfl) ?_
  refine lv_iconst (v := 1) hx hb dL_law_307 (by decide) ?_
  refine lv_iadd hx hb dL_law_308 ?_
  refine lv_topi (fun v1 ev1 => ?_)
  obtain rfl : v1 = 1 := ev1.trans (by decide)
  refine va_sld hx hb hX hbl hbA hS (show ¬ (_ ∨ _) by decide) dL_law_309 ?_
  refine W.eq (g2 := F0 m 310 ls [.int (xs 1), .ref h1]) rfl ?_
  refine lv_aload_n hx hb dL_law_310 rfl (lv_at hl 3 rfl) ?_
  refine lv_iload_n hx hb dL_law_311 rfl (lv_at hl 0 rfl) ?_
  refine lv_iconst (v := 2) hx hb dL_law_312 (by decide) ?_
  refine lv_iadd hx hb dL_law_313 ?_
  refine lv_topi (fun v2 ev2 => ?_)
  obtain rfl : v2 = 2 := ev2.trans (by decide)
  refine va_sld hx hb hX hbl hbA hS (show ¬ (_ ∨ _) by decide) dL_law_314 ?_
  refine W.eq (g2 := F0 m 315 ls [.int (xs 2), .int (xs 1), .ref h1]) rfl ?_
  refine lv_aload_n hx hb dL_law_315 rfl (lv_at hl 3 rfl) ?_
  refine lv_iload_n hx hb dL_law_316 rfl (lv_at hl 0 rfl) ?_
  refine lv_iconst (v := 3) hx hb dL_law_317 (by decide) ?_
  refine lv_iadd hx hb dL_law_318 ?_
  refine lv_topi (fun v3 ev3 => ?_)
  obtain rfl : v3 = 3 := ev3.trans (by decide)
  refine va_sld hx hb hX hbl hbA hS (show ¬ (_ ∨ _) by decide) dL_law_319 ?_
  refine W.eq (g2 := F0 m 320 ls [.int (xs 3), .int (xs 2), .int (xs 1), .ref h1]) rfl ?_
  refine lv_aload_n hx hb dL_law_320 rfl (lv_at hl 3 rfl) ?_
  refine lv_iload_n hx hb dL_law_321 rfl (lv_at hl 0 rfl) ?_
  refine lv_iconst (v := 4) hx hb dL_law_322 (by decide) ?_
  refine lv_iadd hx hb dL_law_323 ?_
  refine lv_topi (fun v4 ev4 => ?_)
  obtain rfl : v4 = 4 := ev4.trans (by decide)
  refine va_sld hx hb hX hbl hbA hS (show ¬ (_ ∨ _) by decide) dL_law_324 ?_
  refine W.eq (g2 := F0 m 325 ls [.int (xs 4), .int (xs 3), .int (xs 2), .int (xs 1), .ref h1]) rfl ?_
  refine lv_aload_n hx hb dL_law_325 rfl (lv_at hl 3 rfl) ?_
  refine lv_iload_n hx hb dL_law_326 rfl (lv_at hl 0 rfl) ?_
  refine lv_iconst (v := 5) hx hb dL_law_327 (by decide) ?_
  refine lv_iadd hx hb dL_law_328 ?_
  refine lv_topi (fun v5 ev5 => ?_)
  obtain rfl : v5 = 5 := ev5.trans (by decide)
  refine va_sld hx hb hX hbl hbA hS (show ¬ (_ ∨ _) by decide) dL_law_329 ?_
  refine W.eq (g2 := F0 m 330 ls [.int (xs 5), .int (xs 4), .int (xs 3), .int (xs 2), .int (xs 1), .ref h1]) rfl ?_
  refine behDi (wr := [(mc0 cs h2 q2), (mc4 cs h2 q2), (mc6 cs h2 q2)]) (runVD (As := [.int (xs 1), .int (xs 2), .int (xs 3), .int (xs 4), .int (xs 5)]) (rest := []) ⟨hx, hb, hml, hown, ht⟩ (dX10_feed l G cs h1 q1 (xs 1) (xs 2) (xs 3) (xs 4) (xs 5)) okV_RL_13 ⟨(Nat.le_of_ble_eq_true rfl), (Nat.le_of_ble_eq_true rfl)⟩ hK hP hD [0, 1, 2] rfl (by decide) rfl 0 rfl rfl hl.1 rfl (Nat.le_of_ble_eq_true rfl) dL_law_330 ⟨(Nat.le_of_ble_eq_true rfl), (Nat.le_of_ble_eq_true rfl)⟩) hP hD hS (fun _ h => h) [0, 1, 2] [3, 4, 5] rfl rfl (by decide) (by decide) (fun r u H locs hr9 hP hD hS => ?_)
  have hP : va_P G vwCl [(mc0 cs h2 q2), (mc4 cs h2 q2), (mc6 cs h2 q2)] H := hP
  have hD : va_D (fun q : Nat => s.heap.size ≤ q) [(mc0 cs h2 q2), (mc4 cs h2 q2), (mc6 cs h2 q2)] := hD
  obtain rfl : r = 20 := hr9
  refine lv_aload_n hx hb dL_law_333 rfl (lv_at hl 1 rfl) ?_
  refine lv_aload_n hx hb dL_law_334 rfl (lv_at hl 3 rfl) ?_
  refine lv_iload_n hx hb dL_law_335 rfl (lv_at hl 0 rfl) ?_
  refine lv_iconst (v := 1) hx hb dL_law_336 (by decide) ?_
  refine lv_iadd hx hb dL_law_337 ?_
  refine lv_topi (fun v7 ev7 => ?_)
  obtain rfl : v7 = 1 := ev7.trans (by decide)
  refine va_sld hx hb hX hbl hbA hS (show ¬ (_ ∨ _) by decide) dL_law_338 ?_
  refine W.eq (g2 := F0 m 339 ls [.int (xs 1), .ref h2, .int 20]) rfl ?_
  refine lv_aload_n hx hb dL_law_339 rfl (lv_at hl 3 rfl) ?_
  refine lv_iload_n hx hb dL_law_340 rfl (lv_at hl 0 rfl) ?_
  refine lv_iconst (v := 2) hx hb dL_law_341 (by decide) ?_
  refine lv_iadd hx hb dL_law_342 ?_
  refine lv_topi (fun v8 ev8 => ?_)
  obtain rfl : v8 = 2 := ev8.trans (by decide)
  refine va_sld hx hb hX hbl hbA hS (show ¬ (_ ∨ _) by decide) dL_law_343 ?_
  refine W.eq (g2 := F0 m 344 ls [.int (xs 2), .int (xs 1), .ref h2, .int 20]) rfl ?_
  refine lv_aload_n hx hb dL_law_344 rfl (lv_at hl 3 rfl) ?_
  refine lv_iload_n hx hb dL_law_345 rfl (lv_at hl 0 rfl) ?_
  refine lv_iconst (v := 3) hx hb dL_law_346 (by decide) ?_
  refine lv_iadd hx hb dL_law_347 ?_
  refine lv_topi (fun v9 ev9 => ?_)
  obtain rfl : v9 = 3 := ev9.trans (by decide)
  refine va_sld hx hb hX hbl hbA hS (show ¬ (_ ∨ _) by decide) dL_law_348 ?_
  refine W.eq (g2 := F0 m 349 ls [.int (xs 3), .int (xs 2), .int (xs 1), .ref h2, .int 20]) rfl ?_
  refine lv_aload_n hx hb dL_law_349 rfl (lv_at hl 3 rfl) ?_
  refine lv_iload_n hx hb dL_law_350 rfl (lv_at hl 0 rfl) ?_
  refine lv_iconst (v := 4) hx hb dL_law_351 (by decide) ?_
  refine lv_iadd hx hb dL_law_352 ?_
  refine lv_topi (fun v10 ev10 => ?_)
  obtain rfl : v10 = 4 := ev10.trans (by decide)
  refine va_sld hx hb hX hbl hbA hS (show ¬ (_ ∨ _) by decide) dL_law_353 ?_
  refine W.eq (g2 := F0 m 354 ls [.int (xs 4), .int (xs 3), .int (xs 2), .int (xs 1), .ref h2, .int 20]) rfl ?_
  refine lv_aload_n hx hb dL_law_354 rfl (lv_at hl 3 rfl) ?_
  refine lv_iload_n hx hb dL_law_355 rfl (lv_at hl 0 rfl) ?_
  refine lv_iconst (v := 5) hx hb dL_law_356 (by decide) ?_
  refine lv_iadd hx hb dL_law_357 ?_
  refine lv_topi (fun v11 ev11 => ?_)
  obtain rfl : v11 = 5 := ev11.trans (by decide)
  refine va_sld hx hb hX hbl hbA hS (show ¬ (_ ∨ _) by decide) dL_law_358 ?_
  refine W.eq (g2 := F0 m 359 ls [.int (xs 5), .int (xs 4), .int (xs 3), .int (xs 2), .int (xs 1), .ref h2, .int 20]) rfl ?_
  refine behDi (wr := []) (runVD (As := [.int (xs 1), .int (xs 2), .int (xs 3), .int (xs 4), .int (xs 5)]) (rest := [.int 20]) ⟨hx, hb, hml, hown, ht⟩ (dX11_feed l G cs h2 q2 (xs 1) (xs 2) (xs 3) (xs 4) (xs 5)) okV_RL_17 ⟨(Nat.le_of_ble_eq_true rfl), (Nat.le_of_ble_eq_true rfl)⟩ hK hP hD [0, 1, 2] rfl (by decide) rfl 0 rfl rfl hl.1 rfl (Nat.le_of_ble_eq_true rfl) dL_law_359 ⟨(Nat.le_of_ble_eq_true rfl), (Nat.le_of_ble_eq_true rfl)⟩) hP hD hS (fun _ h => h) [0, 1, 2] [] rfl rfl (by decide) (by decide) (fun r u H locs hr9 hP hD hS => ?_)
  have hP : va_P G vwCl [] H := hP
  have hD : va_D (fun q : Nat => s.heap.size ≤ q) [] := hD
  obtain rfl : r = 20 := hr9
  refine lv_icmp_eq (tgt := 2158) hx hb dL_law_362 (by decide) (fun c14 => ?_) (fun c13 => False.elim (by revert c13; decide))
  exact law_tail l C0 hS (lv_sub hl [0, 3] rfl) (Nat.le_of_ble_eq_true rfl) (Nat.le_of_ble_eq_true rfl)

set_option maxRecDepth 100000 in
set_option maxHeartbeats 8000000 in
theorem law_1 {p : Program} {e : Env} {s : State} {m : MethodId} {below : List Frame} {meth : Method} {c : Code} (l : Launch) {b : Nat} {xs : Nat → Int32} {G : va_G} {cs : Nat → ClassId} {h1 h2 : Nat} {q1 q2 : Nat → Nat} {H : Heap} {locs : List Loc} {ls : Array Slot} (C0 : lw_At p s m meth c b 6 xs) (hK : KK G (TY cs) s) (hP : va_P G vwCl (xW cs h1 q1 ++ mW cs h2 q2) H) (hD : va_D (fun q : Nat => s.heap.size ≤ q) (xW cs h1 q1 ++ mW cs h2 q2)) (hS : va_S (fun q : Nat => s.heap.size ≤ q) s.heap H locs) (hl : lv_has ls 4 [(3, .int 0), (2, .ref h2), (1, .ref h1), (0, .ref b)]) : W p l e room_1 s m #[Value.ref b] below meth c H locs 121 26756 (lw_Z below #[Value.ref b] s) (F0 m 33 ls [.int 1]) := by
  obtain ⟨hx, hb, hr, hml, hown, hts, hX, hbl, hlocks, hgv⟩ := id C0
  have hown : s.vm.findClass RL = some m.cls := hown
  have ht : ∀ w ∈ tb, w.before #[Value.ref b] s = true := fun w h => hts w (List.mem_filter.mp h).1
  have hbA : ¬ (fun q : Nat => s.heap.size ≤ q) b := Nat.not_le.mpr hbl
  have hP := hP.sub (ws' := [(xc0 cs h1 q1), (xc2 cs h1 q1), (mc0 cs h2 q2)]) [0, 2, 64] rfl
  have hD := hD.sub (ws' := [(xc0 cs h1 q1), (xc2 cs h1 q1), (mc0 cs h2 q2)]) [0, 2, 64] (by decide) rfl
  refine lv_tableIn (off := 334) (tgt := 367) hx hb dL_law_33 (by decide) (by decide) (by decide) (by decide) ?_
  refine lv_aload_n hx hb dL_law_367 rfl (lv_at hl 2 rfl) ?_
  refine lv_aload_n hx hb dL_law_368 rfl (lv_at hl 3 rfl) ?_
  refine lv_iload_n hx hb dL_law_369 rfl (lv_at hl 0 rfl) ?_
  refine lv_iconst (v := 1) hx hb dL_law_370 (by decide) ?_
  refine lv_iadd hx hb dL_law_371 ?_
  refine lv_topi (fun v1 ev1 => ?_)
  obtain rfl : v1 = 1 := ev1.trans (by decide)
  refine va_sld hx hb hX hbl hbA hS (show ¬ (_ ∨ _) by decide) dL_law_372 ?_
  refine W.eq (g2 := F0 m 373 ls [.int (xs 1), .ref h1]) rfl ?_
  refine behDi (wr := [(mc0 cs h2 q2)]) (runVD (As := [.int (xs 1)]) (rest := []) ⟨hx, hb, hml, hown, ht⟩ (dX10_end l G cs h1 q1 (xs 1)) okV_RL_18 ⟨(Nat.le_of_ble_eq_true rfl), (Nat.le_of_ble_eq_true rfl)⟩ hK hP hD [0, 1] rfl (by decide) rfl 0 rfl rfl hl.1 rfl (Nat.le_of_ble_eq_true rfl) dL_law_373 ⟨(Nat.le_of_ble_eq_true rfl), (Nat.le_of_ble_eq_true rfl)⟩) hP hD hS (fun _ h => h) [0, 1] [2] rfl rfl (by decide) (by decide) (fun r u H locs hr9 hP hD hS => ?_)
  have hP : va_P G vwCl [(mc0 cs h2 q2)] H := hP
  have hD : va_D (fun q : Nat => s.heap.size ≤ q) [(mc0 cs h2 q2)] := hD
  obtain rfl : r = (spf (xs 1)) := hr9
  refine lv_aload_n hx hb dL_law_376 rfl (lv_at hl 1 rfl) ?_
  refine lv_aload_n hx hb dL_law_377 rfl (lv_at hl 3 rfl) ?_
  refine lv_iload_n hx hb dL_law_378 rfl (lv_at hl 0 rfl) ?_
  refine lv_iconst (v := 1) hx hb dL_law_379 (by decide) ?_
  refine lv_iadd hx hb dL_law_380 ?_
  refine lv_topi (fun v3 ev3 => ?_)
  obtain rfl : v3 = 1 := ev3.trans (by decide)
  refine va_sld hx hb hX hbl hbA hS (show ¬ (_ ∨ _) by decide) dL_law_381 ?_
  refine W.eq (g2 := F0 m 382 ls [.int (xs 1), .ref h2, .int (spf (xs 1))]) rfl ?_
  refine behDi (wr := []) (runVD (As := [.int (xs 1)]) (rest := [.int (spf (xs 1))]) ⟨hx, hb, hml, hown, ht⟩ (dX11_end l G cs h2 q2 (xs 1)) okV_RL_22 ⟨(Nat.le_of_ble_eq_true rfl), (Nat.le_of_ble_eq_true rfl)⟩ hK hP hD [0] rfl (by decide) rfl 0 rfl rfl hl.1 rfl (Nat.le_of_ble_eq_true rfl) dL_law_382 ⟨(Nat.le_of_ble_eq_true rfl), (Nat.le_of_ble_eq_true rfl)⟩) hP hD hS (fun _ h => h) [0] [] rfl rfl (by decide) (by decide) (fun r u H locs hr9 hP hD hS => ?_)
  have hP : va_P G vwCl [] H := hP
  have hD : va_D (fun q : Nat => s.heap.size ≤ q) [] := hD
  obtain rfl : r = (spf (xs 1)) := hr9
  refine lv_icmp_eq (tgt := 2158) hx hb dL_law_385 (by decide) (fun _ => ?_) (fun c9 => absurd rfl c9)
  exact law_tail l C0 hS (lv_sub hl [0, 3] rfl) (Nat.le_of_ble_eq_true rfl) (Nat.le_of_ble_eq_true rfl)

set_option maxRecDepth 100000 in
set_option maxHeartbeats 8000000 in
theorem law_2 {p : Program} {e : Env} {s : State} {m : MethodId} {below : List Frame} {meth : Method} {c : Code} (l : Launch) {b : Nat} {xs : Nat → Int32} {G : va_G} {cs : Nat → ClassId} {h1 h2 : Nat} {q1 q2 : Nat → Nat} {H : Heap} {locs : List Loc} {ls : Array Slot} (C0 : lw_At p s m meth c b 6 xs) (hK : KK G (TY cs) s) (hP : va_P G vwCl (xW cs h1 q1 ++ mW cs h2 q2) H) (hD : va_D (fun q : Nat => s.heap.size ≤ q) (xW cs h1 q1 ++ mW cs h2 q2)) (hS : va_S (fun q : Nat => s.heap.size ≤ q) s.heap H locs) (hl : lv_has ls 4 [(3, .int 0), (2, .ref h2), (1, .ref h1), (0, .ref b)]) : W p l e room_1 s m #[Value.ref b] below meth c H locs 121 26756 (lw_Z below #[Value.ref b] s) (F0 m 33 ls [.int 2]) := by
  obtain ⟨hx, hb, hr, hml, hown, hts, hX, hbl, hlocks, hgv⟩ := id C0
  have hown : s.vm.findClass RL = some m.cls := hown
  have ht : ∀ w ∈ tb, w.before #[Value.ref b] s = true := fun w h => hts w (List.mem_filter.mp h).1
  have hbA : ¬ (fun q : Nat => s.heap.size ≤ q) b := Nat.not_le.mpr hbl
  have hP := hP.sub (ws' := [(xc0 cs h1 q1), (xc1 cs h1 q1), (xc2 cs h1 q1), (xc4 cs h1 q1), (xc5 cs h1 q1), (xc6 cs h1 q1), (xc7 cs h1 q1), (xc8 cs h1 q1), (xc9 cs h1 q1), (xc10 cs h1 q1), (xc11 cs h1 q1), (xc12 cs h1 q1), (xc13 cs h1 q1), (xc14 cs h1 q1), (xc15 cs h1 q1), (xc16 cs h1 q1), (xc17 cs h1 q1), (xc18 cs h1 q1), (xc19 cs h1 q1), (xc20 cs h1 q1), (xc62 cs h1 q1), (xc63 cs h1 q1), (mc0 cs h2 q2), (mc1 cs h2 q2), (mc14 cs h2 q2)]) [0, 1, 2, 4, 5, 6, 7, 8, 9, 10, 11, 12, 13, 14, 15, 16, 17, 18, 19, 20, 62, 63, 64, 65, 70] rfl
  have hD := hD.sub (ws' := [(xc0 cs h1 q1), (xc1 cs h1 q1), (xc2 cs h1 q1), (xc4 cs h1 q1), (xc5 cs h1 q1), (xc6 cs h1 q1), (xc7 cs h1 q1), (xc8 cs h1 q1), (xc9 cs h1 q1), (xc10 cs h1 q1), (xc11 cs h1 q1), (xc12 cs h1 q1), (xc13 cs h1 q1), (xc14 cs h1 q1), (xc15 cs h1 q1), (xc16 cs h1 q1), (xc17 cs h1 q1), (xc18 cs h1 q1), (xc19 cs h1 q1), (xc20 cs h1 q1), (xc62 cs h1 q1), (xc63 cs h1 q1), (mc0 cs h2 q2), (mc1 cs h2 q2), (mc14 cs h2 q2)]) [0, 1, 2, 4, 5, 6, 7, 8, 9, 10, 11, 12, 13, 14, 15, 16, 17, 18, 19, 20, 62, 63, 64, 65, 70] (by decide) rfl
  refine lv_tableIn (off := 357) (tgt := 390) hx hb dL_law_33 (by decide) (by decide) (by decide) (by decide) ?_
  refine lv_aload_n hx hb dL_law_390 rfl (lv_at hl 2 rfl) ?_
  refine behDi (wr := [(mc0 cs h2 q2), (mc1 cs h2 q2), (mc14 cs h2 q2)]) (runVD (As := []) (rest := []) ⟨hx, hb, hml, hown, ht⟩ (dX10_house l G cs h1 q1 ) okV_RL_23 ⟨(Nat.le_of_ble_eq_true rfl), (Nat.le_of_ble_eq_true rfl)⟩ hK hP hD [0, 1, 2, 3, 4, 5, 6, 7, 8, 9, 10, 11, 12, 13, 14, 15, 16, 17, 18, 19, 20, 21] rfl (by decide) rfl 0 rfl rfl hl.1 rfl (Nat.le_of_ble_eq_true rfl) dL_law_391 ⟨(Nat.le_of_ble_eq_true rfl), (Nat.le_of_ble_eq_true rfl)⟩) hP hD hS (fun _ h => h) [0, 1, 2, 3, 4, 5, 6, 7, 8, 9, 10, 11, 12, 13, 14, 15, 16, 17, 18, 19, 20, 21] [22, 23, 24] rfl rfl (by decide) (by decide) (fun r u H locs hr9 hP hD hS => ?_)
  have hP : va_P G vwCl [(mc0 cs h2 q2), (mc1 cs h2 q2), (mc14 cs h2 q2)] H := hP
  have hD : va_D (fun q : Nat => s.heap.size ≤ q) [(mc0 cs h2 q2), (mc1 cs h2 q2), (mc14 cs h2 q2)] := hD
  obtain rfl : r = 0 := hr9
  refine lv_aload_n hx hb dL_law_394 rfl (lv_at hl 1 rfl) ?_
  refine behDi (wr := []) (runVD (As := []) (rest := [.int 0]) ⟨hx, hb, hml, hown, ht⟩ (dX11_house l G cs h2 q2 ) okV_RL_27 ⟨(Nat.le_of_ble_eq_true rfl), (Nat.le_of_ble_eq_true rfl)⟩ hK hP hD [0, 1, 2] rfl (by decide) rfl 0 rfl rfl hl.1 rfl (Nat.le_of_ble_eq_true rfl) dL_law_395 ⟨(Nat.le_of_ble_eq_true rfl), (Nat.le_of_ble_eq_true rfl)⟩) hP hD hS (fun _ h => h) [0, 1, 2] [] rfl rfl (by decide) (by decide) (fun r u H locs hr9 hP hD hS => ?_)
  have hP : va_P G vwCl [] H := hP
  have hD : va_D (fun q : Nat => s.heap.size ≤ q) [] := hD
  obtain rfl : r = 0 := hr9
  refine lv_icmp_eq (tgt := 2158) hx hb dL_law_398 (by decide) (fun c4 => ?_) (fun c3 => False.elim (by revert c3; decide))
  exact law_tail l C0 hS (lv_sub hl [0, 3] rfl) (Nat.le_of_ble_eq_true rfl) (Nat.le_of_ble_eq_true rfl)

set_option maxRecDepth 100000 in
set_option maxHeartbeats 8000000 in
theorem law_3 {p : Program} {e : Env} {s : State} {m : MethodId} {below : List Frame} {meth : Method} {c : Code} (l : Launch) {b : Nat} {xs : Nat → Int32} {G : va_G} {cs : Nat → ClassId} {h1 h2 : Nat} {q1 q2 : Nat → Nat} {H : Heap} {locs : List Loc} {ls : Array Slot} (C0 : lw_At p s m meth c b 6 xs) (hK : KK G (TY cs) s) (hP : va_P G vwCl (xW cs h1 q1 ++ mW cs h2 q2) H) (hD : va_D (fun q : Nat => s.heap.size ≤ q) (xW cs h1 q1 ++ mW cs h2 q2)) (hS : va_S (fun q : Nat => s.heap.size ≤ q) s.heap H locs) (hl : lv_has ls 4 [(3, .int 0), (2, .ref h2), (1, .ref h1), (0, .ref b)]) : W p l e room_1 s m #[Value.ref b] below meth c H locs 121 26756 (lw_Z below #[Value.ref b] s) (F0 m 33 ls [.int 3]) := by
  obtain ⟨hx, hb, hr, hml, hown, hts, hX, hbl, hlocks, hgv⟩ := id C0
  have hown : s.vm.findClass RL = some m.cls := hown
  have ht : ∀ w ∈ tb, w.before #[Value.ref b] s = true := fun w h => hts w (List.mem_filter.mp h).1
  have hbA : ¬ (fun q : Nat => s.heap.size ≤ q) b := Nat.not_le.mpr hbl
  have hP := hP.sub (ws' := [(xc0 cs h1 q1), (xc1 cs h1 q1), (mc0 cs h2 q2)]) [0, 1, 64] rfl
  have hD := hD.sub (ws' := [(xc0 cs h1 q1), (xc1 cs h1 q1), (mc0 cs h2 q2)]) [0, 1, 64] (by decide) rfl
  refine lv_tableIn (off := 370) (tgt := 403) hx hb dL_law_33 (by decide) (by decide) (by decide) (by decide) ?_
  refine lv_aload_n hx hb dL_law_403 rfl (lv_at hl 2 rfl) ?_
  refine lv_aload_n hx hb dL_law_404 rfl (lv_at hl 3 rfl) ?_
  refine lv_iload_n hx hb dL_law_405 rfl (lv_at hl 0 rfl) ?_
  refine lv_iconst (v := 1) hx hb dL_law_406 (by decide) ?_
  refine lv_iadd hx hb dL_law_407 ?_
  refine lv_topi (fun v1 ev1 => ?_)
  obtain rfl : v1 = 1 := ev1.trans (by decide)
  refine va_sld hx hb hX hbl hbA hS (show ¬ (_ ∨ _) by decide) dL_law_408 ?_
  refine W.eq (g2 := F0 m 409 ls [.int (xs 1), .ref h1]) rfl ?_
  refine behI (runVP (As := [.int (xs 1)]) (rest := []) ⟨hx, hb, hml, hown, ht⟩ (pX10_fault l G cs h1 q1 (xs 1)) okV_RL_28 ⟨(Nat.le_of_ble_eq_true rfl), (Nat.le_of_ble_eq_true rfl)⟩ hK hP [0, 1] rfl 0 rfl rfl hl.1 rfl (Nat.le_of_ble_eq_true rfl) dL_law_409 ⟨(Nat.le_of_ble_eq_true rfl), (Nat.le_of_ble_eq_true rfl)⟩) hP hS (fun _ h => h) (fun H locs hP hS => ?_)
  refine lv_aload_n hx hb dL_law_412 rfl (lv_at hl 1 rfl) ?_
  refine lv_aload_n hx hb dL_law_413 rfl (lv_at hl 3 rfl) ?_
  refine lv_iload_n hx hb dL_law_414 rfl (lv_at hl 0 rfl) ?_
  refine lv_iconst (v := 1) hx hb dL_law_415 (by decide) ?_
  refine lv_iadd hx hb dL_law_416 ?_
  refine lv_topi (fun v2 ev2 => ?_)
  obtain rfl : v2 = 1 := ev2.trans (by decide)
  refine va_sld hx hb hX hbl hbA hS (show ¬ (_ ∨ _) by decide) dL_law_417 ?_
  refine W.eq (g2 := F0 m 418 ls [.int (xs 1), .ref h2, .int (spf (xs 1))]) rfl ?_
  refine behI (runVP (As := [.int (xs 1)]) (rest := [.int (spf (xs 1))]) ⟨hx, hb, hml, hown, ht⟩ (pX11_fault l G cs h2 q2 (xs 1)) okV_RL_31 ⟨(Nat.le_of_ble_eq_true rfl), (Nat.le_of_ble_eq_true rfl)⟩ hK hP [2] rfl 2 rfl rfl hl.1 rfl (Nat.le_of_ble_eq_true rfl) dL_law_418 ⟨(Nat.le_of_ble_eq_true rfl), (Nat.le_of_ble_eq_true rfl)⟩) hP hS (fun _ h => h) (fun H locs hP hS => ?_)
  refine lv_icmp_eq (tgt := 2158) hx hb dL_law_421 (by decide) (fun _ => ?_) (fun c9 => absurd rfl c9)
  exact law_tail l C0 hS (lv_sub hl [0, 3] rfl) (Nat.le_of_ble_eq_true rfl) (Nat.le_of_ble_eq_true rfl)

set_option maxRecDepth 100000 in
set_option maxHeartbeats 8000000 in
theorem law_4 {p : Program} {e : Env} {s : State} {m : MethodId} {below : List Frame} {meth : Method} {c : Code} (l : Launch) {b : Nat} {xs : Nat → Int32} {G : va_G} {cs : Nat → ClassId} {h1 h2 : Nat} {q1 q2 : Nat → Nat} {H : Heap} {locs : List Loc} {ls : Array Slot} (C0 : lw_At p s m meth c b 6 xs) (hK : KK G (TY cs) s) (hP : va_P G vwCl (xW cs h1 q1 ++ mW cs h2 q2) H) (hD : va_D (fun q : Nat => s.heap.size ≤ q) (xW cs h1 q1 ++ mW cs h2 q2)) (hS : va_S (fun q : Nat => s.heap.size ≤ q) s.heap H locs) (hl : lv_has ls 4 [(3, .int 0), (2, .ref h2), (1, .ref h1), (0, .ref b)]) : W p l e room_1 s m #[Value.ref b] below meth c H locs 121 26756 (lw_Z below #[Value.ref b] s) (F0 m 33 ls [.int 4]) := by
  obtain ⟨hx, hb, hr, hml, hown, hts, hX, hbl, hlocks, hgv⟩ := id C0
  have hown : s.vm.findClass RL = some m.cls := hown
  have ht : ∀ w ∈ tb, w.before #[Value.ref b] s = true := fun w h => hts w (List.mem_filter.mp h).1
  have hbA : ¬ (fun q : Nat => s.heap.size ≤ q) b := Nat.not_le.mpr hbl
  have hP := hP.sub (ws' := [(xc0 cs h1 q1), (xc12 cs h1 q1), (xc13 cs h1 q1), (mc0 cs h2 q2), (mc1 cs h2 q2)]) [0, 12, 13, 64, 65] rfl
  have hD := hD.sub (ws' := [(xc0 cs h1 q1), (xc12 cs h1 q1), (xc13 cs h1 q1), (mc0 cs h2 q2), (mc1 cs h2 q2)]) [0, 12, 13, 64, 65] (by decide) rfl
  refine lv_tableIn (off := 393) (tgt := 426) hx hb dL_law_33 (by decide) (by decide) (by decide) (by decide) ?_
  refine lv_aload_n hx hb dL_law_426 rfl (lv_at hl 2 rfl) ?_
  refine lv_aload_n hx hb dL_law_427 rfl (lv_at hl 3 rfl) ?_
  refine lv_iload_n hx hb dL_law_428 rfl (lv_at hl 0 rfl) ?_
  refine lv_iconst (v := 1) hx hb dL_law_429 (by decide) ?_
  refine lv_iadd hx hb dL_law_430 ?_
  refine lv_topi (fun v1 ev1 => ?_)
  obtain rfl : v1 = 1 := ev1.trans (by decide)
  refine va_sld hx hb hX hbl hbA hS (show ¬ (_ ∨ _) by decide) dL_law_431 ?_
  refine W.eq (g2 := F0 m 432 ls [.int (xs 1), .ref h1]) rfl ?_
  refine lv_aload_n hx hb dL_law_432 rfl (lv_at hl 3 rfl) ?_
  refine lv_iload_n hx hb dL_law_433 rfl (lv_at hl 0 rfl) ?_
  refine lv_iconst (v := 2) hx hb dL_law_434 (by decide) ?_
  refine lv_iadd hx hb dL_law_435 ?_
  refine lv_topi (fun v2 ev2 => ?_)
  obtain rfl : v2 = 2 := ev2.trans (by decide)
  refine va_sld hx hb hX hbl hbA hS (show ¬ (_ ∨ _) by decide) dL_law_436 ?_
  refine W.eq (g2 := F0 m 437 ls [.int (xs 2), .int (xs 1), .ref h1]) rfl ?_
  refine behI (runVP (As := [.int (xs 1), .int (xs 2)]) (rest := []) ⟨hx, hb, hml, hown, ht⟩ (pX10_room l G cs h1 q1 (xs 1) (xs 2)) okV_RL_32 ⟨(Nat.le_of_ble_eq_true rfl), (Nat.le_of_ble_eq_true rfl)⟩ hK hP [0, 1, 2] rfl 0 rfl rfl hl.1 rfl (Nat.le_of_ble_eq_true rfl) dL_law_437 ⟨(Nat.le_of_ble_eq_true rfl), (Nat.le_of_ble_eq_true rfl)⟩) hP hS (fun _ h => h) (fun H locs hP hS => ?_)
  refine lv_aload_n hx hb dL_law_440 rfl (lv_at hl 1 rfl) ?_
  refine lv_aload_n hx hb dL_law_441 rfl (lv_at hl 3 rfl) ?_
  refine lv_iload_n hx hb dL_law_442 rfl (lv_at hl 0 rfl) ?_
  refine lv_iconst (v := 1) hx hb dL_law_443 (by decide) ?_
  refine lv_iadd hx hb dL_law_444 ?_
  refine lv_topi (fun v3 ev3 => ?_)
  obtain rfl : v3 = 1 := ev3.trans (by decide)
  refine va_sld hx hb hX hbl hbA hS (show ¬ (_ ∨ _) by decide) dL_law_445 ?_
  refine W.eq (g2 := F0 m 446 ls [.int (xs 1), .ref h2, .int (-2)]) rfl ?_
  refine lv_aload_n hx hb dL_law_446 rfl (lv_at hl 3 rfl) ?_
  refine lv_iload_n hx hb dL_law_447 rfl (lv_at hl 0 rfl) ?_
  refine lv_iconst (v := 2) hx hb dL_law_448 (by decide) ?_
  refine lv_iadd hx hb dL_law_449 ?_
  refine lv_topi (fun v4 ev4 => ?_)
  obtain rfl : v4 = 2 := ev4.trans (by decide)
  refine va_sld hx hb hX hbl hbA hS (show ¬ (_ ∨ _) by decide) dL_law_450 ?_
  refine W.eq (g2 := F0 m 451 ls [.int (xs 2), .int (xs 1), .ref h2, .int (-2)]) rfl ?_
  refine behI (runVP (As := [.int (xs 1), .int (xs 2)]) (rest := [.int (-2)]) ⟨hx, hb, hml, hown, ht⟩ (pX11_room l G cs h2 q2 (xs 1) (xs 2)) okV_RL_36 ⟨(Nat.le_of_ble_eq_true rfl), (Nat.le_of_ble_eq_true rfl)⟩ hK hP [3, 4] rfl 3 rfl rfl hl.1 rfl (Nat.le_of_ble_eq_true rfl) dL_law_451 ⟨(Nat.le_of_ble_eq_true rfl), (Nat.le_of_ble_eq_true rfl)⟩) hP hS (fun _ h => h) (fun H locs hP hS => ?_)
  refine lv_icmp_eq (tgt := 2158) hx hb dL_law_454 (by decide) (fun c6 => ?_) (fun c5 => False.elim (by revert c5; decide))
  exact law_tail l C0 hS (lv_sub hl [0, 3] rfl) (Nat.le_of_ble_eq_true rfl) (Nat.le_of_ble_eq_true rfl)

set_option maxRecDepth 100000 in
set_option maxHeartbeats 8000000 in
theorem law_5 {p : Program} {e : Env} {s : State} {m : MethodId} {below : List Frame} {meth : Method} {c : Code} (l : Launch) {b : Nat} {xs : Nat → Int32} {G : va_G} {cs : Nat → ClassId} {h1 h2 : Nat} {q1 q2 : Nat → Nat} {H : Heap} {locs : List Loc} {ls : Array Slot} (C0 : lw_At p s m meth c b 6 xs) (hK : KK G (TY cs) s) (hP : va_P G vwCl (xW cs h1 q1 ++ mW cs h2 q2) H) (hD : va_D (fun q : Nat => s.heap.size ≤ q) (xW cs h1 q1 ++ mW cs h2 q2)) (hS : va_S (fun q : Nat => s.heap.size ≤ q) s.heap H locs) (hl : lv_has ls 4 [(3, .int 0), (2, .ref h2), (1, .ref h1), (0, .ref b)]) : W p l e room_1 s m #[Value.ref b] below meth c H locs 121 26756 (lw_Z below #[Value.ref b] s) (F0 m 33 ls [.int 5]) := by
  obtain ⟨hx, hb, hr, hml, hown, hts, hX, hbl, hlocks, hgv⟩ := id C0
  have hown : s.vm.findClass RL = some m.cls := hown
  have ht : ∀ w ∈ tb, w.before #[Value.ref b] s = true := fun w h => hts w (List.mem_filter.mp h).1
  have hbA : ¬ (fun q : Nat => s.heap.size ≤ q) b := Nat.not_le.mpr hbl
  have hP := hP.sub (ws' := [(xc0 cs h1 q1), (xc12 cs h1 q1), (xc13 cs h1 q1), (mc0 cs h2 q2), (mc1 cs h2 q2)]) [0, 12, 13, 64, 65] rfl
  have hD := hD.sub (ws' := [(xc0 cs h1 q1), (xc12 cs h1 q1), (xc13 cs h1 q1), (mc0 cs h2 q2), (mc1 cs h2 q2)]) [0, 12, 13, 64, 65] (by decide) rfl
  refine lv_tableIn (off := 426) (tgt := 459) hx hb dL_law_33 (by decide) (by decide) (by decide) (by decide) ?_
  refine lv_aload_n hx hb dL_law_459 rfl (lv_at hl 2 rfl) ?_
  refine lv_aload_n hx hb dL_law_460 rfl (lv_at hl 3 rfl) ?_
  refine lv_iload_n hx hb dL_law_461 rfl (lv_at hl 0 rfl) ?_
  refine lv_iconst (v := 1) hx hb dL_law_462 (by decide) ?_
  refine lv_iadd hx hb dL_law_463 ?_
  refine lv_topi (fun v1 ev1 => ?_)
  obtain rfl : v1 = 1 := ev1.trans (by decide)
  refine va_sld hx hb hX hbl hbA hS (show ¬ (_ ∨ _) by decide) dL_law_464 ?_
  refine W.eq (g2 := F0 m 465 ls [.int (xs 1), .ref h1]) rfl ?_
  refine lv_aload_n hx hb dL_law_465 rfl (lv_at hl 3 rfl) ?_
  refine lv_iload_n hx hb dL_law_466 rfl (lv_at hl 0 rfl) ?_
  refine lv_iconst (v := 2) hx hb dL_law_467 (by decide) ?_
  refine lv_iadd hx hb dL_law_468 ?_
  refine lv_topi (fun v2 ev2 => ?_)
  obtain rfl : v2 = 2 := ev2.trans (by decide)
  refine va_sld hx hb hX hbl hbA hS (show ¬ (_ ∨ _) by decide) dL_law_469 ?_
  refine W.eq (g2 := F0 m 470 ls [.int (xs 2), .int (xs 1), .ref h1]) rfl ?_
  refine behI (runVP (As := [.int (xs 1), .int (xs 2)]) (rest := []) ⟨hx, hb, hml, hown, ht⟩ (pX10_man l G cs h1 q1 (xs 1) (xs 2)) okV_RL_37 ⟨(Nat.le_of_ble_eq_true rfl), (Nat.le_of_ble_eq_true rfl)⟩ hK hP [0, 1, 2] rfl 0 rfl rfl hl.1 rfl (Nat.le_of_ble_eq_true rfl) dL_law_470 ⟨(Nat.le_of_ble_eq_true rfl), (Nat.le_of_ble_eq_true rfl)⟩) hP hS (fun _ h => h) (fun H locs hP hS => ?_)
  refine lv_aload_n hx hb dL_law_473 rfl (lv_at hl 1 rfl) ?_
  refine lv_aload_n hx hb dL_law_474 rfl (lv_at hl 3 rfl) ?_
  refine lv_iload_n hx hb dL_law_475 rfl (lv_at hl 0 rfl) ?_
  refine lv_iconst (v := 1) hx hb dL_law_476 (by decide) ?_
  refine lv_iadd hx hb dL_law_477 ?_
  refine lv_topi (fun v3 ev3 => ?_)
  obtain rfl : v3 = 1 := ev3.trans (by decide)
  refine va_sld hx hb hX hbl hbA hS (show ¬ (_ ∨ _) by decide) dL_law_478 ?_
  refine W.eq (g2 := F0 m 479 ls [.int (xs 1), .ref h2, .int (-2)]) rfl ?_
  refine lv_aload_n hx hb dL_law_479 rfl (lv_at hl 3 rfl) ?_
  refine lv_iload_n hx hb dL_law_480 rfl (lv_at hl 0 rfl) ?_
  refine lv_iconst (v := 2) hx hb dL_law_481 (by decide) ?_
  refine lv_iadd hx hb dL_law_482 ?_
  refine lv_topi (fun v4 ev4 => ?_)
  obtain rfl : v4 = 2 := ev4.trans (by decide)
  refine va_sld hx hb hX hbl hbA hS (show ¬ (_ ∨ _) by decide) dL_law_483 ?_
  refine W.eq (g2 := F0 m 484 ls [.int (xs 2), .int (xs 1), .ref h2, .int (-2)]) rfl ?_
  refine behI (runVP (As := [.int (xs 1), .int (xs 2)]) (rest := [.int (-2)]) ⟨hx, hb, hml, hown, ht⟩ (pX11_man l G cs h2 q2 (xs 1) (xs 2)) okV_RL_40 ⟨(Nat.le_of_ble_eq_true rfl), (Nat.le_of_ble_eq_true rfl)⟩ hK hP [3, 4] rfl 3 rfl rfl hl.1 rfl (Nat.le_of_ble_eq_true rfl) dL_law_484 ⟨(Nat.le_of_ble_eq_true rfl), (Nat.le_of_ble_eq_true rfl)⟩) hP hS (fun _ h => h) (fun H locs hP hS => ?_)
  refine lv_icmp_eq (tgt := 2158) hx hb dL_law_487 (by decide) (fun c6 => ?_) (fun c5 => False.elim (by revert c5; decide))
  exact law_tail l C0 hS (lv_sub hl [0, 3] rfl) (Nat.le_of_ble_eq_true rfl) (Nat.le_of_ble_eq_true rfl)

set_option maxRecDepth 100000 in
set_option maxHeartbeats 8000000 in
theorem law_6 {p : Program} {e : Env} {s : State} {m : MethodId} {below : List Frame} {meth : Method} {c : Code} (l : Launch) {b : Nat} {xs : Nat → Int32} {G : va_G} {cs : Nat → ClassId} {h1 h2 : Nat} {q1 q2 : Nat → Nat} {H : Heap} {locs : List Loc} {ls : Array Slot} (C0 : lw_At p s m meth c b 6 xs) (hK : KK G (TY cs) s) (hP : va_P G vwCl (xW cs h1 q1 ++ mW cs h2 q2) H) (hD : va_D (fun q : Nat => s.heap.size ≤ q) (xW cs h1 q1 ++ mW cs h2 q2)) (hS : va_S (fun q : Nat => s.heap.size ≤ q) s.heap H locs) (hl : lv_has ls 4 [(3, .int 0), (2, .ref h2), (1, .ref h1), (0, .ref b)]) : W p l e room_1 s m #[Value.ref b] below meth c H locs 121 26756 (lw_Z below #[Value.ref b] s) (F0 m 33 ls [.int 6]) := by
  obtain ⟨hx, hb, hr, hml, hown, hts, hX, hbl, hlocks, hgv⟩ := id C0
  have hown : s.vm.findClass RL = some m.cls := hown
  have ht : ∀ w ∈ tb, w.before #[Value.ref b] s = true := fun w h => hts w (List.mem_filter.mp h).1
  have hbA : ¬ (fun q : Nat => s.heap.size ≤ q) b := Nat.not_le.mpr hbl
  have hP := hP.sub (ws' := [(xc0 cs h1 q1), (xc12 cs h1 q1), (xc13 cs h1 q1), (mc0 cs h2 q2), (mc1 cs h2 q2)]) [0, 12, 13, 64, 65] rfl
  have hD := hD.sub (ws' := [(xc0 cs h1 q1), (xc12 cs h1 q1), (xc13 cs h1 q1), (mc0 cs h2 q2), (mc1 cs h2 q2)]) [0, 12, 13, 64, 65] (by decide) rfl
  refine lv_tableIn (off := 459) (tgt := 492) hx hb dL_law_33 (by decide) (by decide) (by decide) (by decide) ?_
  refine lv_aload_n hx hb dL_law_492 rfl (lv_at hl 2 rfl) ?_
  refine lv_aload_n hx hb dL_law_493 rfl (lv_at hl 3 rfl) ?_
  refine lv_iload_n hx hb dL_law_494 rfl (lv_at hl 0 rfl) ?_
  refine lv_iconst (v := 1) hx hb dL_law_495 (by decide) ?_
  refine lv_iadd hx hb dL_law_496 ?_
  refine lv_topi (fun v1 ev1 => ?_)
  obtain rfl : v1 = 1 := ev1.trans (by decide)
  refine va_sld hx hb hX hbl hbA hS (show ¬ (_ ∨ _) by decide) dL_law_497 ?_
  refine W.eq (g2 := F0 m 498 ls [.int (xs 1), .ref h1]) rfl ?_
  refine lv_aload_n hx hb dL_law_498 rfl (lv_at hl 3 rfl) ?_
  refine lv_iload_n hx hb dL_law_499 rfl (lv_at hl 0 rfl) ?_
  refine lv_iconst (v := 2) hx hb dL_law_500 (by decide) ?_
  refine lv_iadd hx hb dL_law_501 ?_
  refine lv_topi (fun v2 ev2 => ?_)
  obtain rfl : v2 = 2 := ev2.trans (by decide)
  refine va_sld hx hb hX hbl hbA hS (show ¬ (_ ∨ _) by decide) dL_law_502 ?_
  refine W.eq (g2 := F0 m 503 ls [.int (xs 2), .int (xs 1), .ref h1]) rfl ?_
  refine behI (runVP (As := [.int (xs 1), .int (xs 2)]) (rest := []) ⟨hx, hb, hml, hown, ht⟩ (pX10_slate l G cs h1 q1 (xs 1) (xs 2)) okV_RL_41 ⟨(Nat.le_of_ble_eq_true rfl), (Nat.le_of_ble_eq_true rfl)⟩ hK hP [0, 1, 2] rfl 0 rfl rfl hl.1 rfl (Nat.le_of_ble_eq_true rfl) dL_law_503 ⟨(Nat.le_of_ble_eq_true rfl), (Nat.le_of_ble_eq_true rfl)⟩) hP hS (fun _ h => h) (fun H locs hP hS => ?_)
  refine lv_aload_n hx hb dL_law_506 rfl (lv_at hl 1 rfl) ?_
  refine lv_aload_n hx hb dL_law_507 rfl (lv_at hl 3 rfl) ?_
  refine lv_iload_n hx hb dL_law_508 rfl (lv_at hl 0 rfl) ?_
  refine lv_iconst (v := 1) hx hb dL_law_509 (by decide) ?_
  refine lv_iadd hx hb dL_law_510 ?_
  refine lv_topi (fun v3 ev3 => ?_)
  obtain rfl : v3 = 1 := ev3.trans (by decide)
  refine va_sld hx hb hX hbl hbA hS (show ¬ (_ ∨ _) by decide) dL_law_511 ?_
  refine W.eq (g2 := F0 m 512 ls [.int (xs 1), .ref h2, .int (-2)]) rfl ?_
  refine lv_aload_n hx hb dL_law_512 rfl (lv_at hl 3 rfl) ?_
  refine lv_iload_n hx hb dL_law_513 rfl (lv_at hl 0 rfl) ?_
  refine lv_iconst (v := 2) hx hb dL_law_514 (by decide) ?_
  refine lv_iadd hx hb dL_law_515 ?_
  refine lv_topi (fun v4 ev4 => ?_)
  obtain rfl : v4 = 2 := ev4.trans (by decide)
  refine va_sld hx hb hX hbl hbA hS (show ¬ (_ ∨ _) by decide) dL_law_516 ?_
  refine W.eq (g2 := F0 m 517 ls [.int (xs 2), .int (xs 1), .ref h2, .int (-2)]) rfl ?_
  refine behI (runVP (As := [.int (xs 1), .int (xs 2)]) (rest := [.int (-2)]) ⟨hx, hb, hml, hown, ht⟩ (pX11_slate l G cs h2 q2 (xs 1) (xs 2)) okV_RL_44 ⟨(Nat.le_of_ble_eq_true rfl), (Nat.le_of_ble_eq_true rfl)⟩ hK hP [3, 4] rfl 3 rfl rfl hl.1 rfl (Nat.le_of_ble_eq_true rfl) dL_law_517 ⟨(Nat.le_of_ble_eq_true rfl), (Nat.le_of_ble_eq_true rfl)⟩) hP hS (fun _ h => h) (fun H locs hP hS => ?_)
  refine lv_icmp_eq (tgt := 2158) hx hb dL_law_520 (by decide) (fun c6 => ?_) (fun c5 => False.elim (by revert c5; decide))
  exact law_tail l C0 hS (lv_sub hl [0, 3] rfl) (Nat.le_of_ble_eq_true rfl) (Nat.le_of_ble_eq_true rfl)

set_option maxRecDepth 100000 in
set_option maxHeartbeats 8000000 in
theorem law_7 {p : Program} {e : Env} {s : State} {m : MethodId} {below : List Frame} {meth : Method} {c : Code} (l : Launch) {b : Nat} {xs : Nat → Int32} {G : va_G} {cs : Nat → ClassId} {h1 h2 : Nat} {q1 q2 : Nat → Nat} {H : Heap} {locs : List Loc} {ls : Array Slot} (C0 : lw_At p s m meth c b 6 xs) (hK : KK G (TY cs) s) (hP : va_P G vwCl (xW cs h1 q1 ++ mW cs h2 q2) H) (hD : va_D (fun q : Nat => s.heap.size ≤ q) (xW cs h1 q1 ++ mW cs h2 q2)) (hS : va_S (fun q : Nat => s.heap.size ≤ q) s.heap H locs) (hl : lv_has ls 4 [(3, .int 0), (2, .ref h2), (1, .ref h1), (0, .ref b)]) : W p l e room_1 s m #[Value.ref b] below meth c H locs 121 26756 (lw_Z below #[Value.ref b] s) (F0 m 33 ls [.int 7]) := by
  obtain ⟨hx, hb, hr, hml, hown, hts, hX, hbl, hlocks, hgv⟩ := id C0
  have hown : s.vm.findClass RL = some m.cls := hown
  have ht : ∀ w ∈ tb, w.before #[Value.ref b] s = true := fun w h => hts w (List.mem_filter.mp h).1
  have hbA : ¬ (fun q : Nat => s.heap.size ≤ q) b := Nat.not_le.mpr hbl
  have hP := hP.sub (ws' := [(xc0 cs h1 q1), (xc12 cs h1 q1), (xc13 cs h1 q1), (mc0 cs h2 q2), (mc1 cs h2 q2)]) [0, 12, 13, 64, 65] rfl
  have hD := hD.sub (ws' := [(xc0 cs h1 q1), (xc12 cs h1 q1), (xc13 cs h1 q1), (mc0 cs h2 q2), (mc1 cs h2 q2)]) [0, 12, 13, 64, 65] (by decide) rfl
  refine lv_tableIn (off := 492) (tgt := 525) hx hb dL_law_33 (by decide) (by decide) (by decide) (by decide) ?_
  refine lv_aload_n hx hb dL_law_525 rfl (lv_at hl 2 rfl) ?_
  refine lv_aload_n hx hb dL_law_526 rfl (lv_at hl 3 rfl) ?_
  refine lv_iload_n hx hb dL_law_527 rfl (lv_at hl 0 rfl) ?_
  refine lv_iconst (v := 1) hx hb dL_law_528 (by decide) ?_
  refine lv_iadd hx hb dL_law_529 ?_
  refine lv_topi (fun v1 ev1 => ?_)
  obtain rfl : v1 = 1 := ev1.trans (by decide)
  refine va_sld hx hb hX hbl hbA hS (show ¬ (_ ∨ _) by decide) dL_law_530 ?_
  refine W.eq (g2 := F0 m 531 ls [.int (xs 1), .ref h1]) rfl ?_
  refine lv_aload_n hx hb dL_law_531 rfl (lv_at hl 3 rfl) ?_
  refine lv_iload_n hx hb dL_law_532 rfl (lv_at hl 0 rfl) ?_
  refine lv_iconst (v := 2) hx hb dL_law_533 (by decide) ?_
  refine lv_iadd hx hb dL_law_534 ?_
  refine lv_topi (fun v2 ev2 => ?_)
  obtain rfl : v2 = 2 := ev2.trans (by decide)
  refine va_sld hx hb hX hbl hbA hS (show ¬ (_ ∨ _) by decide) dL_law_535 ?_
  refine W.eq (g2 := F0 m 536 ls [.int (xs 2), .int (xs 1), .ref h1]) rfl ?_
  refine behI (runVP (As := [.int (xs 1), .int (xs 2)]) (rest := []) ⟨hx, hb, hml, hown, ht⟩ (pX10_hears l G cs h1 q1 (xs 1) (xs 2)) okV_RL_45 ⟨(Nat.le_of_ble_eq_true rfl), (Nat.le_of_ble_eq_true rfl)⟩ hK hP [0, 1, 2] rfl 0 rfl rfl hl.1 rfl (Nat.le_of_ble_eq_true rfl) dL_law_536 ⟨(Nat.le_of_ble_eq_true rfl), (Nat.le_of_ble_eq_true rfl)⟩) hP hS (fun _ h => h) (fun H locs hP hS => ?_)
  refine lv_aload_n hx hb dL_law_539 rfl (lv_at hl 1 rfl) ?_
  refine lv_aload_n hx hb dL_law_540 rfl (lv_at hl 3 rfl) ?_
  refine lv_iload_n hx hb dL_law_541 rfl (lv_at hl 0 rfl) ?_
  refine lv_iconst (v := 1) hx hb dL_law_542 (by decide) ?_
  refine lv_iadd hx hb dL_law_543 ?_
  refine lv_topi (fun v3 ev3 => ?_)
  obtain rfl : v3 = 1 := ev3.trans (by decide)
  refine va_sld hx hb hX hbl hbA hS (show ¬ (_ ∨ _) by decide) dL_law_544 ?_
  refine W.eq (g2 := F0 m 545 ls [.int (xs 1), .ref h2, .int (-2)]) rfl ?_
  refine lv_aload_n hx hb dL_law_545 rfl (lv_at hl 3 rfl) ?_
  refine lv_iload_n hx hb dL_law_546 rfl (lv_at hl 0 rfl) ?_
  refine lv_iconst (v := 2) hx hb dL_law_547 (by decide) ?_
  refine lv_iadd hx hb dL_law_548 ?_
  refine lv_topi (fun v4 ev4 => ?_)
  obtain rfl : v4 = 2 := ev4.trans (by decide)
  refine va_sld hx hb hX hbl hbA hS (show ¬ (_ ∨ _) by decide) dL_law_549 ?_
  refine W.eq (g2 := F0 m 550 ls [.int (xs 2), .int (xs 1), .ref h2, .int (-2)]) rfl ?_
  refine behI (runVP (As := [.int (xs 1), .int (xs 2)]) (rest := [.int (-2)]) ⟨hx, hb, hml, hown, ht⟩ (pX11_hears l G cs h2 q2 (xs 1) (xs 2)) okV_RL_48 ⟨(Nat.le_of_ble_eq_true rfl), (Nat.le_of_ble_eq_true rfl)⟩ hK hP [3, 4] rfl 3 rfl rfl hl.1 rfl (Nat.le_of_ble_eq_true rfl) dL_law_550 ⟨(Nat.le_of_ble_eq_true rfl), (Nat.le_of_ble_eq_true rfl)⟩) hP hS (fun _ h => h) (fun H locs hP hS => ?_)
  refine lv_icmp_eq (tgt := 2158) hx hb dL_law_553 (by decide) (fun c6 => ?_) (fun c5 => False.elim (by revert c5; decide))
  exact law_tail l C0 hS (lv_sub hl [0, 3] rfl) (Nat.le_of_ble_eq_true rfl) (Nat.le_of_ble_eq_true rfl)

