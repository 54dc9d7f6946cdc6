set_option maxRecDepth 100000 in
set_option maxHeartbeats 16000000 in
/-- from the entry, for every script of at most 6 ints, the law comes to its end with true -/
theorem whole_start {p : Program} {e : Env} {s : State} {m : MethodId} {below : List Frame} {meth : Method} {c : Code} (l : Launch) {b L : Nat} {xs : Nat → Int32} (hL : L ≤ 6) (C0 : lw_At p s m meth c b L xs) : W p l e room_1 s m #[Value.ref b] below meth c s.heap [] 0 0 (lw_Z below #[Value.ref b] s) (entryFrame m ([Value.ref b] : List Value).toArray 4) := by
  obtain ⟨hx, hb, hr, hml, hown, hts, hX, hbl, hlocks, hgv⟩ := id C0
  have hown : s.vm.findClass RL = some m.cls := hown
  have ht : ∀ w ∈ tb, w.before #[Value.ref b] s = true := fun w h => hts w (List.mem_filter.mp h).1
  have hbA : ¬ (fun q : Nat => s.heap.size ≤ q) b := Nat.not_le.mpr hbl
  have hA : ∀ q : Nat, s.heap.size ≤ q → (fun q : Nat => s.heap.size ≤ q) q := fun _ h => h
  obtain ⟨G, cs, hK⟩ := law_KK hts
  have hS : va_S (fun q : Nat => s.heap.size ≤ q) s.heap s.heap [] := va_S.rf
  have hP : va_P G vwCl [] s.heap := fun k q h => by simp at h
  have hD : va_D (fun q : Nat => s.heap.size ≤ q) [] := ⟨fun i j p q h => by simp at h, fun k q h => by simp at h⟩
  have hl := lv_entry ([.ref b]) (n := 4) (Nat.le_of_ble_eq_true rfl)
  rw [lg_entry_eq]
  generalize (lg_sl ([.ref b]) ++ List.replicate (4 - (lg_sl ([.ref b])).length) Slot.unset).toArray = ls at hl ⊢
  have hl : lv_has ls 4 [(0, .ref b)] := hl
  refine newO (ci := 10) hx hb ht hown hK hP hD hS hA iTX10 tyX10 tyX10_ok no_RL_7 rfl [.null, .null, .null, .null, .null, .null, .null, .null, .null, .null, .null, .null] dfX10 (Nat.le_of_ble_eq_true rfl) (Nat.le_of_ble_eq_true rfl) dL_law_0 (fun q1 H hP hD hS => ?_)
  have hP : va_P G vwCl [(q1, .inr (10, [.null, .null, .null, .null, .null, .null, .null, .null, .null, .null, .null, .null]))] H := hP
  have hD : va_D (fun q : Nat => s.heap.size ≤ q) [(q1, .inr (10, [.null, .null, .null, .null, .null, .null, .null, .null, .null, .null, .null, .null]))] := hD
  refine lv_dup hx hb dL_law_3 rfl ?_
  refine behDv (wr := []) (runID (As := []) (rest := [.ref q1]) ⟨hx, hb, hml, hown, ht⟩ (dX10_init l G cs q1) okI_RL_9 ⟨(Nat.le_of_ble_eq_true rfl), (Nat.le_of_ble_eq_true rfl)⟩ hK hP hD [0] rfl (by decide) rfl hl.1 rfl (Nat.le_of_ble_eq_true rfl) dL_law_4 ⟨Nat.le_of_ble_eq_true rfl, Nat.le_of_ble_eq_true rfl⟩) hP hD hS hA [0] [] rfl rfl (by decide) (by decide) (fun u H locs hP hD hS => ?_)
  obtain ⟨q2, rfl⟩ : ∃ z, z = u := ⟨_, rfl⟩
  have hP : va_P G vwCl [(xc0 cs q1 q2), (xc1 cs q1 q2), (xc2 cs q1 q2), (xc3 cs q1 q2), (xc4 cs q1 q2), (xc5 cs q1 q2), (xc6 cs q1 q2), (xc7 cs q1 q2), (xc8 cs q1 q2), (xc9 cs q1 q2), (xc10 cs q1 q2), (xc11 cs q1 q2), (xc12 cs q1 q2), (xc13 cs q1 q2), (xc14 cs q1 q2), (xc15 cs q1 q2), (xc16 cs q1 q2), (xc17 cs q1 q2), (xc18 cs q1 q2), (xc19 cs q1 q2), (xc20 cs q1 q2), (xc21 cs q1 q2), (xc22 cs q1 q2), (xc23 cs q1 q2), (xc24 cs q1 q2), (xc25 cs q1 q2), (xc26 cs q1 q2), (xc27 cs q1 q2), (xc28 cs q1 q2), (xc29 cs q1 q2), (xc30 cs q1 q2), (xc31 cs q1 q2), (xc32 cs q1 q2), (xc33 cs q1 q2), (xc34 cs q1 q2), (xc35 cs q1 q2), (xc36 cs q1 q2), (xc37 cs q1 q2), (xc38 cs q1 q2), (xc39 cs q1 q2), (xc40 cs q1 q2), (xc41 cs q1 q2), (xc42 cs q1 q2), (xc43 cs q1 q2), (xc44 cs q1 q2), (xc45 cs q1 q2), (xc46 cs q1 q2), (xc47 cs q1 q2), (xc48 cs q1 q2), (xc49 cs q1 q2), (xc50 cs q1 q2), (xc51 cs q1 q2), (xc52 cs q1 q2), (xc53 cs q1 q2), (xc54 cs q1 q2), (xc55 cs q1 q2), (xc56 cs q1 q2), (xc57 cs q1 q2), (xc58 cs q1 q2), (xc59 cs q1 q2), (xc60 cs q1 q2), (xc61 cs q1 q2), (xc62 cs q1 q2), (xc63 cs q1 q2)] H := hP
  have hD : va_D (fun q : Nat => s.heap.size ≤ q) [(xc0 cs q1 q2), (xc1 cs q1 q2), (xc2 cs q1 q2), (xc3 cs q1 q2), (xc4 cs q1 q2), (xc5 cs q1 q2), (xc6 cs q1 q2), (xc7 cs q1 q2), (xc8 cs q1 q2), (xc9 cs q1 q2), (xc10 cs q1 q2), (xc11 cs q1 q2), (xc12 cs q1 q2), (xc13 cs q1 q2), (xc14 cs q1 q2), (xc15 cs q1 q2), (xc16 cs q1 q2), (xc17 cs q1 q2), (xc18 cs q1 q2), (xc19 cs q1 q2), (xc20 cs q1 q2), (xc21 cs q1 q2), (xc22 cs q1 q2), (xc23 cs q1 q2), (xc24 cs q1 q2), (xc25 cs q1 q2), (xc26 cs q1 q2), (xc27 cs q1 q2), (xc28 cs q1 q2), (xc29 cs q1 q2), (xc30 cs q1 q2), (xc31 cs q1 q2), (xc32 cs q1 q2), (xc33 cs q1 q2), (xc34 cs q1 q2), (xc35 cs q1 q2), (xc36 cs q1 q2), (xc37 cs q1 q2), (xc38 cs q1 q2), (xc39 cs q1 q2), (xc40 cs q1 q2), (xc41 cs q1 q2), (xc42 cs q1 q2), (xc43 cs q1 q2), (xc44 cs q1 q2), (xc45 cs q1 q2), (xc46 cs q1 q2), (xc47 cs q1 q2), (xc48 cs q1 q2), (xc49 cs q1 q2), (xc50 cs q1 q2), (xc51 cs q1 q2), (xc52 cs q1 q2), (xc53 cs q1 q2), (xc54 cs q1 q2), (xc55 cs q1 q2), (xc56 cs q1 q2), (xc57 cs q1 q2), (xc58 cs q1 q2), (xc59 cs q1 q2), (xc60 cs q1 q2), (xc61 cs q1 q2), (xc62 cs q1 q2), (xc63 cs q1 q2)] := hD
  refine lv_astore_n (lv' := [(1, .ref q1), (0, .ref b)]) hx hb dL_law_7 rfl hl (by decide) rfl (fun ls hl => ?_)
  refine newO (ci := 11) hx hb ht hown hK hP hD hS hA iTX11 tyX11 tyX11_ok no_RL_10 rfl [.int 0, .null, .null, .null, .null, .int 0, .null, .int 0, .int 0, .int 0, .int 0, .int 0, .int 0, .int 0, .null, .null, .null, .int 0, .int 0, .null, .null, .null, .int 0, .null, .null, .null, .int 0, .null, .long 0, .int 0, .int 0, .null, .null, .null, .null] dfX11 (Nat.le_of_ble_eq_true rfl) (Nat.le_of_ble_eq_true rfl) dL_law_8 (fun q3 H hP hD hS => ?_)
  have hP : va_P G vwCl [(xc0 cs q1 q2), (xc1 cs q1 q2), (xc2 cs q1 q2), (xc3 cs q1 q2), (xc4 cs q1 q2), (xc5 cs q1 q2), (xc6 cs q1 q2), (xc7 cs q1 q2), (xc8 cs q1 q2), (xc9 cs q1 q2), (xc10 cs q1 q2), (xc11 cs q1 q2), (xc12 cs q1 q2), (xc13 cs q1 q2), (xc14 cs q1 q2), (xc15 cs q1 q2), (xc16 cs q1 q2), (xc17 cs q1 q2), (xc18 cs q1 q2), (xc19 cs q1 q2), (xc20 cs q1 q2), (xc21 cs q1 q2), (xc22 cs q1 q2), (xc23 cs q1 q2), (xc24 cs q1 q2), (xc25 cs q1 q2), (xc26 cs q1 q2), (xc27 cs q1 q2), (xc28 cs q1 q2), (xc29 cs q1 q2), (xc30 cs q1 q2), (xc31 cs q1 q2), (xc32 cs q1 q2), (xc33 cs q1 q2), (xc34 cs q1 q2), (xc35 cs q1 q2), (xc36 cs q1 q2), (xc37 cs q1 q2), (xc38 cs q1 q2), (xc39 cs q1 q2), (xc40 cs q1 q2), (xc41 cs q1 q2), (xc42 cs q1 q2), (xc43 cs q1 q2), (xc44 cs q1 q2), (xc45 cs q1 q2), (xc46 cs q1 q2), (xc47 cs q1 q2), (xc48 cs q1 q2), (xc49 cs q1 q2), (xc50 cs q1 q2), (xc51 cs q1 q2), (xc52 cs q1 q2), (xc53 cs q1 q2), (xc54 cs q1 q2), (xc55 cs q1 q2), (xc56 cs q1 q2), (xc57 cs q1 q2), (xc58 cs q1 q2), (xc59 cs q1 q2), (xc60 cs q1 q2), (xc61 cs q1 q2), (xc62 cs q1 q2), (xc63 cs q1 q2), (q3, .inr (11, [.int 0, .null, .null, .null, .null, .int 0, .null, .int 0, .int 0, .int 0, .int 0, .int 0, .int 0, .int 0, .null, .null, .null, .int 0, .int 0, .null, .null, .null, .int 0, .null, .null, .null, .int 0, .null, .long 0, .int 0, .int 0, .null, .null, .null, .null]))] H := hP
  have hD : va_D (fun q : Nat => s.heap.size ≤ q) [(xc0 cs q1 q2), (xc1 cs q1 q2), (xc2 cs q1 q2), (xc3 cs q1 q2), (xc4 cs q1 q2), (xc5 cs q1 q2), (xc6 cs q1 q2), (xc7 cs q1 q2), (xc8 cs q1 q2), (xc9 cs q1 q2), (xc10 cs q1 q2), (xc11 cs q1 q2), (xc12 cs q1 q2), (xc13 cs q1 q2), (xc14 cs q1 q2), (xc15 cs q1 q2), (xc16 cs q1 q2), (xc17 cs q1 q2), (xc18 cs q1 q2), (xc19 cs q1 q2), (xc20 cs q1 q2), (xc21 cs q1 q2), (xc22 cs q1 q2), (xc23 cs q1 q2), (xc24 cs q1 q2), (xc25 cs q1 q2), (xc26 cs q1 q2), (xc27 cs q1 q2), (xc28 cs q1 q2), (xc29 cs q1 q2), (xc30 cs q1 q2), (xc31 cs q1 q2), (xc32 cs q1 q2), (xc33 cs q1 q2), (xc34 cs q1 q2), (xc35 cs q1 q2), (xc36 cs q1 q2), (xc37 cs q1 q2), (xc38 cs q1 q2), (xc39 cs q1 q2), (xc40 cs q1 q2), (xc41 cs q1 q2), (xc42 cs q1 q2), (xc43 cs q1 q2), (xc44 cs q1 q2), (xc45 cs q1 q2), (xc46 cs q1 q2), (xc47 cs q1 q2), (xc48 cs q1 q2), (xc49 cs q1 q2), (xc50 cs q1 q2), (xc51 cs q1 q2), (xc52 cs q1 q2), (xc53 cs q1 q2), (xc54 cs q1 q2), (xc55 cs q1 q2), (xc56 cs q1 q2), (xc57 cs q1 q2), (xc58 cs q1 q2), (xc59 cs q1 q2), (xc60 cs q1 q2), (xc61 cs q1 q2), (xc62 cs q1 q2), (xc63 cs q1 q2), (q3, .inr (11, [.int 0, .null, .null, .null, .null, .int 0, .null, .int 0, .int 0, .int 0, .int 0, .int 0, .int 0, .int 0, .null, .null, .null, .int 0, .int 0, .null, .null, .null, .int 0, .null, .null, .null, .int 0, .null, .long 0, .int 0, .int 0, .null, .null, .null, .null]))] := hD
  refine lv_dup hx hb dL_law_11 rfl ?_
  refine behDv (wr := [(xc0 cs q1 q2), (xc1 cs q1 q2), (xc2 cs q1 q2), (xc3 cs q1 q2), (xc4 cs q1 q2), (xc5 cs q1 q2), (xc6 cs q1 q2), (xc7 cs q1 q2), (xc8 cs q1 q2), (xc9 cs q1 q2), (xc10 cs q1 q2), (xc11 cs q1 q2), (xc12 cs q1 q2), (xc13 cs q1 q2), (xc14 cs q1 q2), (xc15 cs q1 q2), (xc16 cs q1 q2), (xc17 cs q1 q2), (xc18 cs q1 q2), (xc19 cs q1 q2), (xc20 cs q1 q2), (xc21 cs q1 q2), (xc22 cs q1 q2), (xc23 cs q1 q2), (xc24 cs q1 q2), (xc25 cs q1 q2), (xc26 cs q1 q2), (xc27 cs q1 q2), (xc28 cs q1 q2), (xc29 cs q1 q2), (xc30 cs q1 q2), (xc31 cs q1 q2), (xc32 cs q1 q2), (xc33 cs q1 q2), (xc34 cs q1 q2), (xc35 cs q1 q2), (xc36 cs q1 q2), (xc37 cs q1 q2), (xc38 cs q1 q2), (xc39 cs q1 q2), (xc40 cs q1 q2), (xc41 cs q1 q2), (xc42 cs q1 q2), (xc43 cs q1 q2), (xc44 cs q1 q2), (xc45 cs q1 q2), (xc46 cs q1 q2), (xc47 cs q1 q2), (xc48 cs q1 q2), (xc49 cs q1 q2), (xc50 cs q1 q2), (xc51 cs q1 q2), (xc52 cs q1 q2), (xc53 cs q1 q2), (xc54 cs q1 q2), (xc55 cs q1 q2), (xc56 cs q1 q2), (xc57 cs q1 q2), (xc58 cs q1 q2), (xc59 cs q1 q2), (xc60 cs q1 q2), (xc61 cs q1 q2), (xc62 cs q1 q2), (xc63 cs q1 q2)]) (runID (As := []) (rest := [.ref q3]) ⟨hx, hb, hml, hown, ht⟩ (dX11_init l G cs q3) okI_RL_12 ⟨(Nat.le_of_ble_eq_true rfl), (Nat.le_of_ble_eq_true rfl)⟩ hK hP hD [64] rfl (by decide) rfl hl.1 rfl (Nat.le_of_ble_eq_true rfl) dL_law_12 ⟨Nat.le_of_ble_eq_true rfl, Nat.le_of_ble_eq_true rfl⟩) hP hD hS hA [64] [0, 1, 2, 3, 4, 5, 6, 7, 8, 9, 10, 11, 12, 13, 14, 15, 16, 17, 18, 19, 20, 21, 22, 23, 24, 25, 26, 27, 28, 29, 30, 31, 32, 33, 34, 35, 36, 37, 38, 39, 40, 41, 42, 43, 44, 45, 46, 47, 48, 49, 50, 51, 52, 53, 54, 55, 56, 57, 58, 59, 60, 61, 62, 63] rfl rfl (by decide) (by decide) (fun u H locs hP hD hS => ?_)
  obtain ⟨q4, rfl⟩ : ∃ z, z = u := ⟨_, rfl⟩
  have hP : va_P G vwCl [(xc0 cs q1 q2), (xc1 cs q1 q2), (xc2 cs q1 q2), (xc3 cs q1 q2), (xc4 cs q1 q2), (xc5 cs q1 q2), (xc6 cs q1 q2), (xc7 cs q1 q2), (xc8 cs q1 q2), (xc9 cs q1 q2), (xc10 cs q1 q2), (xc11 cs q1 q2), (xc12 cs q1 q2), (xc13 cs q1 q2), (xc14 cs q1 q2), (xc15 cs q1 q2), (xc16 cs q1 q2), (xc17 cs q1 q2), (xc18 cs q1 q2), (xc19 cs q1 q2), (xc20 cs q1 q2), (xc21 cs q1 q2), (xc22 cs q1 q2), (xc23 cs q1 q2), (xc24 cs q1 q2), (xc25 cs q1 q2), (xc26 cs q1 q2), (xc27 cs q1 q2), (xc28 cs q1 q2), (xc29 cs q1 q2), (xc30 cs q1 q2), (xc31 cs q1 q2), (xc32 cs q1 q2), (xc33 cs q1 q2), (xc34 cs q1 q2), (xc35 cs q1 q2), (xc36 cs q1 q2), (xc37 cs q1 q2), (xc38 cs q1 q2), (xc39 cs q1 q2), (xc40 cs q1 q2), (xc41 cs q1 q2), (xc42 cs q1 q2), (xc43 cs q1 q2), (xc44 cs q1 q2), (xc45 cs q1 q2), (xc46 cs q1 q2), (xc47 cs q1 q2), (xc48 cs q1 q2), (xc49 cs q1 q2), (xc50 cs q1 q2), (xc51 cs q1 q2), (xc52 cs q1 q2), (xc53 cs q1 q2), (xc54 cs q1 q2), (xc55 cs q1 q2), (xc56 cs q1 q2), (xc57 cs q1 q2), (xc58 cs q1 q2), (xc59 cs q1 q2), (xc60 cs q1 q2), (xc61 cs q1 q2), (xc62 cs q1 q2), (xc63 cs q1 q2), (mc0 cs q3 q4), (mc1 cs q3 q4), (mc2 cs q3 q4), (mc3 cs q3 q4), (mc4 cs q3 q4), (mc6 cs q3 q4), (mc14 cs q3 q4), (mc31 cs q3 q4), (mc32 cs q3 q4), (mc33 cs q3 q4)] H := hP
  have hD : va_D (fun q : Nat => s.heap.size ≤ q) [(xc0 cs q1 q2), (xc1 cs q1 q2), (xc2 cs q1 q2), (xc3 cs q1 q2), (xc4 cs q1 q2), (xc5 cs q1 q2), (xc6 cs q1 q2), (xc7 cs q1 q2), (xc8 cs q1 q2), (xc9 cs q1 q2), (xc10 cs q1 q2), (xc11 cs q1 q2), (xc12 cs q1 q2), (xc13 cs q1 q2), (xc14 cs q1 q2), (xc15 cs q1 q2), (xc16 cs q1 q2), (xc17 cs q1 q2), (xc18 cs q1 q2), (xc19 cs q1 q2), (xc20 cs q1 q2), (xc21 cs q1 q2), (xc22 cs q1 q2), (xc23 cs q1 q2), (xc24 cs q1 q2), (xc25 cs q1 q2), (xc26 cs q1 q2), (xc27 cs q1 q2), (xc28 cs q1 q2), (xc29 cs q1 q2), (xc30 cs q1 q2), (xc31 cs q1 q2), (xc32 cs q1 q2), (xc33 cs q1 q2), (xc34 cs q1 q2), (xc35 cs q1 q2), (xc36 cs q1 q2), (xc37 cs q1 q2), (xc38 cs q1 q2), (xc39 cs q1 q2), (xc40 cs q1 q2), (xc41 cs q1 q2), (xc42 cs q1 q2), (xc43 cs q1 q2), (xc44 cs q1 q2), (xc45 cs q1 q2), (xc46 cs q1 q2), (xc47 cs q1 q2), (xc48 cs q1 q2), (xc49 cs q1 q2), (xc50 cs q1 q2), (xc51 cs q1 q2), (xc52 cs q1 q2), (xc53 cs q1 q2), (xc54 cs q1 q2), (xc55 cs q1 q2), (xc56 cs q1 q2), (xc57 cs q1 q2), (xc58 cs q1 q2), (xc59 cs q1 q2), (xc60 cs q1 q2), (xc61 cs q1 q2), (xc62 cs q1 q2), (xc63 cs q1 q2), (mc0 cs q3 q4), (mc1 cs q3 q4), (mc2 cs q3 q4), (mc3 cs q3 q4), (mc4 cs q3 q4), (mc6 cs q3 q4), (mc14 cs q3 q4), (mc31 cs q3 q4), (mc32 cs q3 q4), (mc33 cs q3 q4)] := hD
  refine lv_astore_n (lv' := [(2, .ref q3), (1, .ref q1), (0, .ref b)]) hx hb dL_law_15 rfl hl (by decide) rfl (fun ls hl => ?_)
  refine lv_iconst (v := 0) hx hb dL_law_16 (by decide) ?_
  refine lv_istore_n (lv' := [(3, .int 0), (2, .ref q3), (1, .ref q1), (0, .ref b)]) hx hb dL_law_17 rfl hl (by decide) rfl (fun ls hl => ?_)
  have hP : va_P G vwCl (xW cs q1 q2 ++ mW cs q3 q4) H := hP
  have hD : va_D (fun q : Nat => s.heap.size ≤ q) (xW cs q1 q2 ++ mW cs q3 q4) := hD
  refine W.widen (k := 121) (n := 26756) (Nat.le_of_ble_eq_true rfl) (Nat.le_of_ble_eq_true rfl) ?_
  rcases (show L = 0 ∨ L = 1 ∨ L = 2 ∨ L = 3 ∨ L = 4 ∨ L = 5 ∨ L = 6 by omega) with rfl | rfl | rfl | rfl | rfl | rfl | rfl
  · refine lv_iload_n hx hb dL_law_18 rfl (lv_at hl 0 rfl) ?_
    refine lv_aload_n hx hb dL_law_19 rfl (lv_at hl 3 rfl) ?_
    refine va_slen hx hb hX hbl hbA hS dL_law_20 ?_
    refine lv_bipush (v := 6) hx hb dL_law_21 (by decide) ?_
    refine lv_isub hx hb dL_law_23 ?_
    refine lv_icmp_gt (tgt := 2164) hx hb dL_law_24 (by decide) (fun _ => ?_) (fun c9 => False.elim (c9 (by decide)))
    refine lv_iconst (v := 1) hx hb dL_law_2164 (by decide) ?_
    refine va_forget (fun q hq => hS.2.2 q hq) ?_
    refine W.widen (k := 600000) (n := 7302250) (Nat.le_of_ble_eq_true rfl) (Nat.le_of_ble_eq_true rfl) ?_
    exact lw_ret hx hb hr hlocks dL_law_2165
  · refine lv_iload_n hx hb dL_law_18 rfl (lv_at hl 0 rfl) ?_
    refine lv_aload_n hx hb dL_law_19 rfl (lv_at hl 3 rfl) ?_
    refine va_slen hx hb hX hbl hbA hS dL_law_20 ?_
    refine lv_bipush (v := 6) hx hb dL_law_21 (by decide) ?_
    refine lv_isub hx hb dL_law_23 ?_
    refine lv_icmp_gt (tgt := 2164) hx hb dL_law_24 (by decide) (fun _ => ?_) (fun c9 => False.elim (c9 (by decide)))
    refine lv_iconst (v := 1) hx hb dL_law_2164 (by decide) ?_
    refine va_forget (fun q hq => hS.2.2 q hq) ?_
    refine W.widen (k := 600000) (n := 7302250) (Nat.le_of_ble_eq_true rfl) (Nat.le_of_ble_eq_true rfl) ?_
    exact lw_ret hx hb hr hlocks dL_law_2165
  · refine lv_iload_n hx hb dL_law_18 rfl (lv_at hl 0 rfl) ?_
    refine lv_aload_n hx hb dL_law_19 rfl (lv_at hl 3 rfl) ?_
    refine va_slen hx hb hX hbl hbA hS dL_law_20 ?_
    refine lv_bipush (v := 6) hx hb dL_law_21 (by decide) ?_
    refine lv_isub hx hb dL_law_23 ?_
    refine lv_icmp_gt (tgt := 2164) hx hb dL_law_24 (by decide) (fun _ => ?_) (fun c9 => False.elim (c9 (by decide)))
    refine lv_iconst (v := 1) hx hb dL_law_2164 (by decide) ?_
    refine va_forget (fun q hq => hS.2.2 q hq) ?_
    refine W.widen (k := 600000) (n := 7302250) (Nat.le_of_ble_eq_true rfl) (Nat.le_of_ble_eq_true rfl) ?_
    exact lw_ret hx hb hr hlocks dL_law_2165
  · refine lv_iload_n hx hb dL_law_18 rfl (lv_at hl 0 rfl) ?_
    refine lv_aload_n hx hb dL_law_19 rfl (lv_at hl 3 rfl) ?_
    refine va_slen hx hb hX hbl hbA hS dL_law_20 ?_
    refine lv_bipush (v := 6) hx hb dL_law_21 (by decide) ?_
    refine lv_isub hx hb dL_law_23 ?_
    refine lv_icmp_gt (tgt := 2164) hx hb dL_law_24 (by decide) (fun _ => ?_) (fun c9 => False.elim (c9 (by decide)))
    refine lv_iconst (v := 1) hx hb dL_law_2164 (by decide) ?_
    refine va_forget (fun q hq => hS.2.2 q hq) ?_
    refine W.widen (k := 600000) (n := 7302250) (Nat.le_of_ble_eq_true rfl) (Nat.le_of_ble_eq_true rfl) ?_
    exact lw_ret hx hb hr hlocks dL_law_2165
  · refine lv_iload_n hx hb dL_law_18 rfl (lv_at hl 0 rfl) ?_
    refine lv_aload_n hx hb dL_law_19 rfl (lv_at hl 3 rfl) ?_
    refine va_slen hx hb hX hbl hbA hS dL_law_20 ?_
    refine lv_bipush (v := 6) hx hb dL_law_21 (by decide) ?_
    refine lv_isub hx hb dL_law_23 ?_
    refine lv_icmp_gt (tgt := 2164) hx hb dL_law_24 (by decide) (fun _ => ?_) (fun c9 => False.elim (c9 (by decide)))
    refine lv_iconst (v := 1) hx hb dL_law_2164 (by decide) ?_
    refine va_forget (fun q hq => hS.2.2 q hq) ?_
    refine W.widen (k := 600000) (n := 7302250) (Nat.le_of_ble_eq_true rfl) (Nat.le_of_ble_eq_true rfl) ?_
    exact lw_ret hx hb hr hlocks dL_law_2165
  · refine lv_iload_n hx hb dL_law_18 rfl (lv_at hl 0 rfl) ?_
    refine lv_aload_n hx hb dL_law_19 rfl (lv_at hl 3 rfl) ?_
    refine va_slen hx hb hX hbl hbA hS dL_law_20 ?_
    refine lv_bipush (v := 6) hx hb dL_law_21 (by decide) ?_
    refine lv_isub hx hb dL_law_23 ?_
    refine lv_icmp_gt (tgt := 2164) hx hb dL_law_24 (by decide) (fun _ => ?_) (fun c9 => False.elim (c9 (by decide)))
    refine lv_iconst (v := 1) hx hb dL_law_2164 (by decide) ?_
    refine va_forget (fun q hq => hS.2.2 q hq) ?_
    refine W.widen (k := 600000) (n := 7302250) (Nat.le_of_ble_eq_true rfl) (Nat.le_of_ble_eq_true rfl) ?_
    exact lw_ret hx hb hr hlocks dL_law_2165
  · refine lv_iload_n hx hb dL_law_18 rfl (lv_at hl 0 rfl) ?_
    refine lv_aload_n hx hb dL_law_19 rfl (lv_at hl 3 rfl) ?_
    refine va_slen hx hb hX hbl hbA hS dL_law_20 ?_
    refine lv_bipush (v := 6) hx hb dL_law_21 (by decide) ?_
    refine lv_isub hx hb dL_law_23 ?_
    refine lv_icmp_gt (tgt := 2164) hx hb dL_law_24 (by decide) (fun c9 => False.elim (by revert c9; decide)) (fun _ => ?_)
    refine lv_aload_n hx hb dL_law_27 rfl (lv_at hl 3 rfl) ?_
    refine lv_iload_n hx hb dL_law_28 rfl (lv_at hl 0 rfl) ?_
    refine va_sld hx hb hX hbl hbA hS (show ¬ (_ ∨ _) by decide) dL_law_29 ?_
    refine lv_bipush (v := 63) hx hb dL_law_30 (by decide) ?_
    refine lv_iand hx hb dL_law_32 ?_
    refine lv_topi (fun y9 ey9 => ?_)
    obtain ⟨j, hj, ej⟩ := pk_andE (xs (0 : Int32).toNatClampNeg) (m := 63) 6 (by decide)
    obtain rfl : y9 = nI j := ey9.trans ej
    exact lt64 (P := fun j => W p l e room_1 s m #[Value.ref b] below meth c H locs 121 26756 (lw_Z below #[Value.ref b] s) (F0 m 33 ls [.int (nI j)])) (law_0 l (h1 := q1) (q1 := q2) (h2 := q3) (q2 := q4) C0 hK hP hD hS hl) (law_1 l (h1 := q1) (q1 := q2) (h2 := q3) (q2 := q4) C0 hK hP hD hS hl) (law_2 l (h1 := q1) (q1 := q2) (h2 := q3) (q2 := q4) C0 hK hP hD hS hl) (law_3 l (h1 := q1) (q1 := q2) (h2 := q3) (q2 := q4) C0 hK hP hD hS hl) (law_4 l (h1 := q1) (q1 := q2) (h2 := q3) (q2 := q4) C0 hK hP hD hS hl) (law_5 l (h1 := q1) (q1 := q2) (h2 := q3) (q2 := q4) C0 hK hP hD hS hl) (law_6 l (h1 := q1) (q1 := q2) (h2 := q3) (q2 := q4) C0 hK hP hD hS hl) (law_7 l (h1 := q1) (q1 := q2) (h2 := q3) (q2 := q4) C0 hK hP hD hS hl) (law_8 l (h1 := q1) (q1 := q2) (h2 := q3) (q2 := q4) C0 hK hP hD hS hl) (law_9 l (h1 := q1) (q1 := q2) (h2 := q3) (q2 := q4) C0 hK hP hD hS hl) (law_10 l (h1 := q1) (q1 := q2) (h2 := q3) (q2 := q4) C0 hK hP hD hS hl) (law_11 l (h1 := q1) (q1 := q2) (h2 := q3) (q2 := q4) C0 hK hP hD hS hl) (law_12 l (h1 := q1) (q1 := q2) (h2 := q3) (q2 := q4) C0 hK hP hD hS hl) (law_13 l (h1 := q1) (q1 := q2) (h2 := q3) (q2 := q4) C0 hK hP hD hS hl) (law_14 l (h1 := q1) (q1 := q2) (h2 := q3) (q2 := q4) C0 hK hP hD hS hl) (law_15 l (h1 := q1) (q1 := q2) (h2 := q3) (q2 := q4) C0 hK hP hD hS hl) (law_16 l (h1 := q1) (q1 := q2) (h2 := q3) (q2 := q4) C0 hK hP hD hS hl) (law_17 l (h1 := q1) (q1 := q2) (h2 := q3) (q2 := q4) C0 hK hP hD hS hl) (law_18 l (h1 := q1) (q1 := q2) (h2 := q3) (q2 := q4) C0 hK hP hD hS hl) (law_19 l (h1 := q1) (q1 := q2) (h2 := q3) (q2 := q4) C0 hK hP hD hS hl) (law_20 l (h1 := q1) (q1 := q2) (h2 := q3) (q2 := q4) C0 hK hP hD hS hl) (law_21 l (h1 := q1) (q1 := q2) (h2 := q3) (q2 := q4) C0 hK hP hD hS hl) (law_22 l (h1 := q1) (q1 := q2) (h2 := q3) (q2 := q4) C0 hK hP hD hS hl) (law_23 l (h1 := q1) (q1 := q2) (h2 := q3) (q2 := q4) C0 hK hP hD hS hl) (law_24 l (h1 := q1) (q1 := q2) (h2 := q3) (q2 := q4) C0 hK hP hD hS hl) (law_25 l (h1 := q1) (q1 := q2) (h2 := q3) (q2 := q4) C0 hK hP hD hS hl) (law_26 l (h1 := q1) (q1 := q2) (h2 := q3) (q2 := q4) C0 hK hP hD hS hl) (law_27 l (h1 := q1) (q1 := q2) (h2 := q3) (q2 := q4) C0 hK hP hD hS hl) (law_28 l (h1 := q1) (q1 := q2) (h2 := q3) (q2 := q4) C0 hK hP hD hS hl) (law_29 l (h1 := q1) (q1 := q2) (h2 := q3) (q2 := q4) C0 hK hP hD hS hl) (law_30 l (h1 := q1) (q1 := q2) (h2 := q3) (q2 := q4) C0 hK hP hD hS hl) (law_31 l (h1 := q1) (q1 := q2) (h2 := q3) (q2 := q4) C0 hK hP hD hS hl) (law_32 l (h1 := q1) (q1 := q2) (h2 := q3) (q2 := q4) C0 hK hP hD hS hl) (law_33 l (h1 := q1) (q1 := q2) (h2 := q3) (q2 := q4) C0 hK hP hD hS hl) (law_34 l (h1 := q1) (q1 := q2) (h2 := q3) (q2 := q4) C0 hK hP hD hS hl) (law_35 l (h1 := q1) (q1 := q2) (h2 := q3) (q2 := q4) C0 hK hP hD hS hl) (law_36 l (h1 := q1) (q1 := q2) (h2 := q3) (q2 := q4) C0 hK hP hD hS hl) (law_37 l (h1 := q1) (q1 := q2) (h2 := q3) (q2 := q4) C0 hK hP hD hS hl) (law_38 l (h1 := q1) (q1 := q2) (h2 := q3) (q2 := q4) C0 hK hP hD hS hl) (law_39 l (h1 := q1) (q1 := q2) (h2 := q3) (q2 := q4) C0 hK hP hD hS hl) (law_40 l (h1 := q1) (q1 := q2) (h2 := q3) (q2 := q4) C0 hK hP hD hS hl) (law_41 l (h1 := q1) (q1 := q2) (h2 := q3) (q2 := q4) C0 hK hP hD hS hl) (law_42 l (h1 := q1) (q1 := q2) (h2 := q3) (q2 := q4) C0 hK hP hD hS hl) (law_43 l (h1 := q1) (q1 := q2) (h2 := q3) (q2 := q4) C0 hK hP hD hS hl) (law_44 l (h1 := q1) (q1 := q2) (h2 := q3) (q2 := q4) C0 hK hP hD hS hl) (law_45 l (h1 := q1) (q1 := q2) (h2 := q3) (q2 := q4) C0 hK hP hD hS hl) (law_46 l (h1 := q1) (q1 := q2) (h2 := q3) (q2 := q4) C0 hK hP hD hS hl) (law_47 l (h1 := q1) (q1 := q2) (h2 := q3) (q2 := q4) C0 hK hP hD hS hl) (law_48 l (h1 := q1) (q1 := q2) (h2 := q3) (q2 := q4) C0 hK hP hD hS hl) (law_49 l (h1 := q1) (q1 := q2) (h2 := q3) (q2 := q4) C0 hK hP hD hS hl) (law_50 l (h1 := q1) (q1 := q2) (h2 := q3) (q2 := q4) C0 hK hP hD hS hl) (law_51 l (h1 := q1) (q1 := q2) (h2 := q3) (q2 := q4) C0 hK hP hD hS hl) (law_52 l (h1 := q1) (q1 := q2) (h2 := q3) (q2 := q4) C0 hK hP hD hS hl) (law_53 l (h1 := q1) (q1 := q2) (h2 := q3) (q2 := q4) C0 hK hP hD hS hl) (law_54 l (h1 := q1) (q1 := q2) (h2 := q3) (q2 := q4) C0 hK hP hD hS hl) (law_55 l (h1 := q1) (q1 := q2) (h2 := q3) (q2 := q4) C0 hK hP hD hS hl) (law_56 l (h1 := q1) (q1 := q2) (h2 := q3) (q2 := q4) C0 hK hP hD hS hl) (law_57 l (h1 := q1) (q1 := q2) (h2 := q3) (q2 := q4) C0 hK hP hD hS hl) (law_58 l (h1 := q1) (q1 := q2) (h2 := q3) (q2 := q4) C0 hK hP hD hS hl) (law_59 l (h1 := q1) (q1 := q2) (h2 := q3) (q2 := q4) C0 hK hP hD hS hl) (law_60 l (h1 := q1) (q1 := q2) (h2 := q3) (q2 := q4) C0 hK hP hD hS hl) (law_61 l (h1 := q1) (q1 := q2) (h2 := q3) (q2 := q4) C0 hK hP hD hS hl) (law_62 l (h1 := q1) (q1 := q2) (h2 := q3) (q2 := q4) C0 hK hP hD hS hl) (law_63 l (h1 := q1) (q1 := q2) (h2 := q3) (q2 := q4) C0 hK hP hD hS hl) j hj
