set_option maxRecDepth 100000 in
set_option maxHeartbeats 16000000 in
theorem law_60 {p : Program} {l : Launch} {e : Env} {s : State} {m : MethodId} {below : List Frame} {meth : Method} {c : Code} {b L : Nat} {xs : Nat → Int32} {G : va_G} {cs : Nat → ClassId} {h1 : Nat} {Q : Nat → Nat → Nat} {h2 : Nat} {q2 : Nat → Nat} {sd : Nat → Nat × Nat} {i : Int32} : LCase p l e s m below meth c b G cs h1 Q h2 q2 i L xs sd 60 := by
  intro C0 hL hK hQ hQM hi0 hi6 kk F A B D MF MA MD MB H locs ls hX hM hR hP hD hS hl
  obtain ⟨hx, hb, hr, hml, hown, hts, hXs, hbl, hlocks, hgv⟩ := id C0
  have hown : s.vm.findClass RL = some m.cls := hown
  have ht : ∀ w ∈ tb, w.before #[Value.ref b] s = true := fun w h => hts w (List.mem_filter.mp h).1
  have hbA : ¬ (fun q : Nat => s.heap.size ≤ q) b := Nat.not_le.mpr hbl
  have t1 : (i + 1).toInt = i.toInt + 1 := addT rfl (by decide) (by omega)
  obtain ⟨a1, ea1⟩ : ∃ z : Int32, z = xs (i + 1).toNatClampNeg := ⟨_, rfl⟩
  refine lv_tableIn (off := 1921) (tgt := 1954) hx hb dL_law_33 (by decide) (by decide) (by decide) (by decide) ?_
  refine lv_aload_n hx hb dL_law_1954 rfl (lv_at hl 2 rfl) ?_
  refine lv_aload_n hx hb dL_law_1955 rfl (lv_at hl 3 rfl) ?_
  refine lv_iload_n hx hb dL_law_1956 rfl (lv_at hl 0 rfl) ?_
  refine lv_iconst (v := 1) hx hb dL_law_1957 (by decide) ?_
  refine lv_iadd hx hb dL_law_1958 ?_
  refine va_sld hx hb hXs hbl hbA hS (inK t1 (by omega) (by omega)) dL_law_1959 ?_
  refine W.eq (g2 := F0 m 1960 ls [.int a1, .ref h1]) (by rw [← ea1]) ?_
  rcases csN3 a1 with hN | hN | rfl | rfl | rfl
  · have bb1 := i32b a1
    refine behR (runVP (As := [.int a1]) (rest := []) ⟨hx, hb, hml, hown, ht⟩ (sX10_back_lo l G cs h1 (Q 0) (F 0) (A 0) (B 0) (D 0) hX.1 (Q 4) (F 4) (A 4) (B 4) (D 4) hX.2.2.2.2.1 (Q 5) (F 5) (A 5) (B 5) (D 5) hX.2.2.2.2.2.1 a1 (by omega)) okV_RL_261 ⟨(Nat.le_of_ble_eq_true rfl), (Nat.le_of_ble_eq_true rfl)⟩ hK hP [0, 1, 2, 14, 15, 16, 17, 18, 19, 20, 21, 22, 23] rfl 0 rfl rfl hl.1 rfl (Nat.le_of_ble_eq_true rfl) dL_law_1960 ⟨(Nat.le_of_ble_eq_true rfl), (Nat.le_of_ble_eq_true rfl)⟩) hP hS (fun _ h => h) (fun r2 H locs hr2 hP hS => ?_)
    have hr2 : r2.toInt = -2 := hr2
    refine lv_pop hx hb dL_law_1963 rfl ?_
    refine lv_aload_n hx hb dL_law_1964 rfl (lv_at hl 1 rfl) ?_
    refine lv_aload_n hx hb dL_law_1965 rfl (lv_at hl 3 rfl) ?_
    refine lv_iload_n hx hb dL_law_1966 rfl (lv_at hl 0 rfl) ?_
    refine lv_iconst (v := 1) hx hb dL_law_1967 (by decide) ?_
    refine lv_iadd hx hb dL_law_1968 ?_
    refine va_sld hx hb hXs hbl hbA hS (inK t1 (by omega) (by omega)) dL_law_1969 ?_
    refine W.eq (g2 := F0 m 1970 ls [.int a1, .ref h2]) (by rw [← ea1]) ?_
    refine behDi (wr := (XLW cs h1 Q F A B D)) (runVD (As := [.int a1]) (rest := []) ⟨hx, hb, hml, hown, ht⟩ (sX11_back l G cs h2 q2 MF MA MD MB hM.1 a1 hM.2.1 hM.2.2) okV_RL_264 ⟨(Nat.le_of_ble_eq_true rfl), (Nat.le_of_ble_eq_true rfl)⟩ hK hP hD [101, 102, 103, 104, 105, 106, 107, 108, 109, 110, 111, 112, 113, 114, 115, 116, 117, 118, 119, 120] rfl (by decide +kernel) rfl 101 rfl rfl hl.1 rfl (Nat.le_of_ble_eq_true rfl) dL_law_1970 ⟨(Nat.le_of_ble_eq_true rfl), (Nat.le_of_ble_eq_true rfl)⟩) hP hD hS (fun _ h => h) [101, 102, 103, 104, 105, 106, 107, 108, 109, 110, 111, 112, 113, 114, 115, 116, 117, 118, 119, 120] [0, 1, 2, 3, 4, 5, 6, 7, 8, 9, 10, 11, 12, 13, 14, 15, 16, 17, 18, 19, 20, 21, 22, 23, 24, 25, 26, 27, 28, 29, 30, 31, 32, 33, 34, 35, 36, 37, 38, 39, 40, 41, 42, 43, 44, 45, 46, 47, 48, 49, 50, 51, 52, 53, 54, 55, 56, 57, 58, 59, 60, 61, 62, 63, 64, 65, 66, 67, 68, 69, 70, 71, 72, 73, 74, 75, 76, 77, 78, 79, 80, 81, 82, 83, 84, 85, 86, 87, 88, 89, 90, 91, 92, 93, 94, 95, 96, 97, 98, 99, 100] rfl rfl (by decide +kernel) (by decide +kernel) (fun r9 u H locs hu hP hD hS => ?_)
    obtain ⟨g4, rfl⟩ : ∃ z, z = u := ⟨_, rfl⟩
    obtain ⟨r3, rfl⟩ : ∃ z, z = r9 := ⟨_, rfl⟩
    obtain ⟨hg4, hr3⟩ := hu
    have hg4 : AI 1 g4 := hg4
    have hr3 : WG g4 ∧ ((r3.toInt = -2 ∧ (a1.toInt < 0 ∨ 2 < a1.toInt)) ∨ (0 ≤ a1.toInt ∧ a1.toInt ≤ 2 ∧ ((MA 3) a1.toNatClampNeg).toInt = 0 ∧ r3.toInt = -6) ∨ (0 ≤ a1.toInt ∧ a1.toInt ≤ 2 ∧ ¬ ((MA 3) a1.toNatClampNeg).toInt = 0 ∧ r3.toInt = 0)) := hr3
    have hP : va_P G vwCl (LW cs h1 Q h2 q2 F A B D MF (vA MA 1 g4) MD MB) H := hP
    have hD : va_D (fun q : Nat => s.heap.size ≤ q) (LW cs h1 Q h2 q2 F A B D MF (vA MA 1 g4) MD MB) := hD
    refine lv_pop hx hb dL_law_1973 rfl ?_
    refine lv_goto (tgt := 2156) hx hb dL_law_1974 (by decide) ?_
    exact kk F A B D MF (vA MA 1 g4) MD MB H locs ls ⟨hX.1, hX.2.1, hX.2.2.1, hX.2.2.2.1, hX.2.2.2.2.1, hX.2.2.2.2.2.1, hX.2.2.2.2.2.2.1, hX.2.2.2.2.2.2.2.1, hX.2.2.2.2.2.2.2.2.1, hX.2.2.2.2.2.2.2.2.2.1, hX.2.2.2.2.2.2.2.2.2.2.1, hX.2.2.2.2.2.2.2.2.2.2.2.1, hX.2.2.2.2.2.2.2.2.2.2.2.2.1, hX.2.2.2.2.2.2.2.2.2.2.2.2.2.1, hX.2.2.2.2.2.2.2.2.2.2.2.2.2.2.1, hX.2.2.2.2.2.2.2.2.2.2.2.2.2.2.2.1, hX.2.2.2.2.2.2.2.2.2.2.2.2.2.2.2.2.1, hX.2.2.2.2.2.2.2.2.2.2.2.2.2.2.2.2.2.1, hX.2.2.2.2.2.2.2.2.2.2.2.2.2.2.2.2.2.2.1, hX.2.2.2.2.2.2.2.2.2.2.2.2.2.2.2.2.2.2.2.1, hX.2.2.2.2.2.2.2.2.2.2.2.2.2.2.2.2.2.2.2.2.1, hX.2.2.2.2.2.2.2.2.2.2.2.2.2.2.2.2.2.2.2.2.2.1, hX.2.2.2.2.2.2.2.2.2.2.2.2.2.2.2.2.2.2.2.2.2.2.1, hX.2.2.2.2.2.2.2.2.2.2.2.2.2.2.2.2.2.2.2.2.2.2.2.1, hX.2.2.2.2.2.2.2.2.2.2.2.2.2.2.2.2.2.2.2.2.2.2.2.2.1, hX.2.2.2.2.2.2.2.2.2.2.2.2.2.2.2.2.2.2.2.2.2.2.2.2.2.1, hX.2.2.2.2.2.2.2.2.2.2.2.2.2.2.2.2.2.2.2.2.2.2.2.2.2.2⟩ ⟨(IM_arr (k := 1) hM.1 hg4), hr3.1, hM.2.2⟩ hR hP hD hS hl
  · have bb5 := i32b a1
    refine behR (runVP (As := [.int a1]) (rest := []) ⟨hx, hb, hml, hown, ht⟩ (sX10_back_hi l G cs h1 (Q 0) (F 0) (A 0) (B 0) (D 0) hX.1 (Q 4) (F 4) (A 4) (B 4) (D 4) hX.2.2.2.2.1 (Q 5) (F 5) (A 5) (B 5) (D 5) hX.2.2.2.2.2.1 a1 (by omega)) okV_RL_261 ⟨(Nat.le_of_ble_eq_true rfl), (Nat.le_of_ble_eq_true rfl)⟩ hK hP [0, 1, 2, 14, 15, 16, 17, 18, 19, 20, 21, 22, 23] rfl 0 rfl rfl hl.1 rfl (Nat.le_of_ble_eq_true rfl) dL_law_1960 ⟨(Nat.le_of_ble_eq_true rfl), (Nat.le_of_ble_eq_true rfl)⟩) hP hS (fun _ h => h) (fun r6 H locs hr6 hP hS => ?_)
    have hr6 : r6.toInt = -2 := hr6
    refine lv_pop hx hb dL_law_1963 rfl ?_
    refine lv_aload_n hx hb dL_law_1964 rfl (lv_at hl 1 rfl) ?_
    refine lv_aload_n hx hb dL_law_1965 rfl (lv_at hl 3 rfl) ?_
    refine lv_iload_n hx hb dL_law_1966 rfl (lv_at hl 0 rfl) ?_
    refine lv_iconst (v := 1) hx hb dL_law_1967 (by decide) ?_
    refine lv_iadd hx hb dL_law_1968 ?_
    refine va_sld hx hb hXs hbl hbA hS (inK t1 (by omega) (by omega)) dL_law_1969 ?_
    refine W.eq (g2 := F0 m 1970 ls [.int a1, .ref h2]) (by rw [← ea1]) ?_
    refine behDi (wr := (XLW cs h1 Q F A B D)) (runVD (As := [.int a1]) (rest := []) ⟨hx, hb, hml, hown, ht⟩ (sX11_back l G cs h2 q2 MF MA MD MB hM.1 a1 hM.2.1 hM.2.2) okV_RL_264 ⟨(Nat.le_of_ble_eq_true rfl), (Nat.le_of_ble_eq_true rfl)⟩ hK hP hD [101, 102, 103, 104, 105, 106, 107, 108, 109, 110, 111, 112, 113, 114, 115, 116, 117, 118, 119, 120] rfl (by decide +kernel) rfl 101 rfl rfl hl.1 rfl (Nat.le_of_ble_eq_true rfl) dL_law_1970 ⟨(Nat.le_of_ble_eq_true rfl), (Nat.le_of_ble_eq_true rfl)⟩) hP hD hS (fun _ h => h) [101, 102, 103, 104, 105, 106, 107, 108, 109, 110, 111, 112, 113, 114, 115, 116, 117, 118, 119, 120] [0, 1, 2, 3, 4, 5, 6, 7, 8, 9, 10, 11, 12, 13, 14, 15, 16, 17, 18, 19, 20, 21, 22, 23, 24, 25, 26, 27, 28, 29, 30, 31, 32, 33, 34, 35, 36, 37, 38, 39, 40, 41, 42, 43, 44, 45, 46, 47, 48, 49, 50, 51, 52, 53, 54, 55, 56, 57, 58, 59, 60, 61, 62, 63, 64, 65, 66, 67, 68, 69, 70, 71, 72, 73, 74, 75, 76, 77, 78, 79, 80, 81, 82, 83, 84, 85, 86, 87, 88, 89, 90, 91, 92, 93, 94, 95, 96, 97, 98, 99, 100] rfl rfl (by decide +kernel) (by decide +kernel) (fun r9 u H locs hu hP hD hS => ?_)
    obtain ⟨g8, rfl⟩ : ∃ z, z = u := ⟨_, rfl⟩
    obtain ⟨r7, rfl⟩ : ∃ z, z = r9 := ⟨_, rfl⟩
    obtain ⟨hg8, hr7⟩ := hu
    have hg8 : AI 1 g8 := hg8
    have hr7 : WG g8 ∧ ((r7.toInt = -2 ∧ (a1.toInt < 0 ∨ 2 < a1.toInt)) ∨ (0 ≤ a1.toInt ∧ a1.toInt ≤ 2 ∧ ((MA 3) a1.toNatClampNeg).toInt = 0 ∧ r7.toInt = -6) ∨ (0 ≤ a1.toInt ∧ a1.toInt ≤ 2 ∧ ¬ ((MA 3) a1.toNatClampNeg).toInt = 0 ∧ r7.toInt = 0)) := hr7
    have hP : va_P G vwCl (LW cs h1 Q h2 q2 F A B D MF (vA MA 1 g8) MD MB) H := hP
    have hD : va_D (fun q : Nat => s.heap.size ≤ q) (LW cs h1 Q h2 q2 F A B D MF (vA MA 1 g8) MD MB) := hD
    refine lv_pop hx hb dL_law_1973 rfl ?_
    refine lv_goto (tgt := 2156) hx hb dL_law_1974 (by decide) ?_
    exact kk F A B D MF (vA MA 1 g8) MD MB H locs ls ⟨hX.1, hX.2.1, hX.2.2.1, hX.2.2.2.1, hX.2.2.2.2.1, hX.2.2.2.2.2.1, hX.2.2.2.2.2.2.1, hX.2.2.2.2.2.2.2.1, hX.2.2.2.2.2.2.2.2.1, hX.2.2.2.2.2.2.2.2.2.1, hX.2.2.2.2.2.2.2.2.2.2.1, hX.2.2.2.2.2.2.2.2.2.2.2.1, hX.2.2.2.2.2.2.2.2.2.2.2.2.1, hX.2.2.2.2.2.2.2.2.2.2.2.2.2.1, hX.2.2.2.2.2.2.2.2.2.2.2.2.2.2.1, hX.2.2.2.2.2.2.2.2.2.2.2.2.2.2.2.1, hX.2.2.2.2.2.2.2.2.2.2.2.2.2.2.2.2.1, hX.2.2.2.2.2.2.2.2.2.2.2.2.2.2.2.2.2.1, hX.2.2.2.2.2.2.2.2.2.2.2.2.2.2.2.2.2.2.1, hX.2.2.2.2.2.2.2.2.2.2.2.2.2.2.2.2.2.2.2.1, hX.2.2.2.2.2.2.2.2.2.2.2.2.2.2.2.2.2.2.2.2.1, hX.2.2.2.2.2.2.2.2.2.2.2.2.2.2.2.2.2.2.2.2.2.1, hX.2.2.2.2.2.2.2.2.2.2.2.2.2.2.2.2.2.2.2.2.2.2.1, hX.2.2.2.2.2.2.2.2.2.2.2.2.2.2.2.2.2.2.2.2.2.2.2.1, hX.2.2.2.2.2.2.2.2.2.2.2.2.2.2.2.2.2.2.2.2.2.2.2.2.1, hX.2.2.2.2.2.2.2.2.2.2.2.2.2.2.2.2.2.2.2.2.2.2.2.2.2.1, hX.2.2.2.2.2.2.2.2.2.2.2.2.2.2.2.2.2.2.2.2.2.2.2.2.2.2⟩ ⟨(IM_arr (k := 1) hM.1 hg8), hr7.1, hM.2.2⟩ hR hP hD hS hl
  · refine behDi (wr := ((uX6 cs (Q 0 0) (fun _ => Q 0 1) (F 1) (A 1) (B 1) (D 1)) ++ ((uX9 cs (Q 0 1) (Q 2) (F 2) (A 2) (B 2) (D 2)) ++ ((uX3 cs (Q 0 2) (Q 3) (F 3) (A 3) (B 3) (D 3)) ++ ((uX5 cs (Q 0 7) (Q 7) (F 7) (A 7) (B 7) (D 7)) ++ ((uX0 cs (Q 0 8) (Q 8) (F 8) (A 8) (B 8) (D 8)) ++ ((uX1 cs (Q 0 9) (Q 9) (F 9) (A 9) (B 9) (D 9)) ++ ((uX4 cs (Q 0 10) (Q 10) (F 10) (A 10) (B 10) (D 10)) ++ ((uX2 cs (Q 0 11) (Q 11) (F 11) (A 11) (B 11) (D 11)) ++ ((uX7 cs (Q 0 20) (Q 12) (F 12) (A 12) (B 12) (D 12)) ++ ((uX7 cs (Q 0 21) (Q 13) (F 13) (A 13) (B 13) (D 13)) ++ ((uX7 cs (Q 0 22) (Q 14) (F 14) (A 14) (B 14) (D 14)) ++ ((uX7 cs (Q 0 23) (Q 15) (F 15) (A 15) (B 15) (D 15)) ++ ((uX8 cs (Q 0 31) (Q 18) (F 18) (A 18) (B 18) (D 18)) ++ ((uX3 cs (Q 18 0) (Q 19) (F 19) (A 19) (B 19) (D 19)) ++ ((uX8 cs (Q 0 32) (Q 20) (F 20) (A 20) (B 20) (D 20)) ++ ((uX3 cs (Q 20 0) (Q 21) (F 21) (A 21) (B 21) (D 21)) ++ ((uX5 cs (Q 8 10) (Q 22) (F 22) (A 22) (B 22) (D 22)) ++ ((uX5 cs (Q 8 11) (Q 23) (F 23) (A 23) (B 23) (D 23)) ++ ((uX5 cs (Q 8 12) (Q 24) (F 24) (A 24) (B 24) (D 24)) ++ ((uX5 cs (Q 8 13) (Q 25) (F 25) (A 25) (B 25) (D 25)) ++ ((uX5 cs (Q 8 14) (Q 26) (F 26) (A 26) (B 26) (D 26)) ++ (mS cs h2 q2 MF MA MD MB))))))))))))))))))))))) (runVD (As := [.int 0]) (rest := []) ⟨hx, hb, hml, hown, ht⟩ (sX10_back_0 l G cs h1 (Q 0) (F 0) (A 0) (B 0) (D 0) hX.1 (Q 4) (F 4) (A 4) (B 4) (D 4) hX.2.2.2.2.1 (Q 5) (F 5) (A 5) (B 5) (D 5) hX.2.2.2.2.2.1 (Q 6) (F 6) (A 6) (B 6) (D 6) hX.2.2.2.2.2.2.1 (Q 16) (F 16) (A 16) (B 16) (D 16) hX.2.2.2.2.2.2.2.2.2.2.2.2.2.2.2.2.1 (Q 17) (F 17) (A 17) (B 17) (D 17) hX.2.2.2.2.2.2.2.2.2.2.2.2.2.2.2.2.2.1) okV_RL_261 ⟨(Nat.le_of_ble_eq_true rfl), (Nat.le_of_ble_eq_true rfl)⟩ hK hP hD [0, 1, 2, 14, 15, 16, 17, 18, 19, 20, 21, 22, 23, 24, 25, 26, 56, 57, 58, 59, 60, 61, 62, 63, 64, 65] rfl (by decide +kernel) rfl 0 rfl rfl hl.1 rfl (Nat.le_of_ble_eq_true rfl) dL_law_1960 ⟨(Nat.le_of_ble_eq_true rfl), (Nat.le_of_ble_eq_true rfl)⟩) hP hD hS (fun _ h => h) [0, 1, 2, 14, 15, 16, 17, 18, 19, 20, 21, 22, 23, 24, 25, 26, 56, 57, 58, 59, 60, 61, 62, 63, 64, 65] [3, 4, 5, 6, 7, 8, 9, 10, 11, 12, 13, 27, 28, 29, 30, 31, 32, 33, 34, 35, 36, 37, 38, 39, 40, 41, 42, 43, 44, 45, 46, 47, 48, 49, 50, 51, 52, 53, 54, 55, 66, 67, 68, 69, 70, 71, 72, 73, 74, 75, 76, 77, 78, 79, 80, 81, 82, 83, 84, 85, 86, 87, 88, 89, 90, 91, 92, 93, 94, 95, 96, 97, 98, 99, 100, 101, 102, 103, 104, 105, 106, 107, 108, 109, 110, 111, 112, 113, 114, 115, 116, 117, 118, 119, 120] rfl rfl (by decide +kernel) (by decide +kernel) (fun r9 u H locs hu hP hD hS => ?_)
    obtain ⟨x10, x11, x12, x13, x14, x15, x16, x17, x18, x19, g20, g21, g22, g23, g24, g25, g26, g27, g28, g29⟩ := u
    obtain ⟨r9, rfl⟩ : ∃ z, z = r9 := ⟨_, rfl⟩
    obtain ⟨hbx15, hbx16, hbx19, hg23, hg25, hr9⟩ := hu
    have hbx15 : (0 : Int) ≤ x15.toInt ∧ x15.toInt ≤ 7 := hbx15
    have hbx16 : (0 : Int) ≤ x16.toInt ∧ x16.toInt ≤ 6 := hbx16
    have hbx19 : (0 : Int) ≤ x19.toInt ∧ x19.toInt ≤ 60 := hbx19
    have hg23 : AJ (0) 127 g23 := hg23
    have hg25 : AJ (0) 63 g25 := hg25
    have kk30 : (0 : Int32).toInt = 0 := by decide
    have hr9 : ((F 16 3).toInt = 0 ∧ r9.toInt = -6) ∨ (¬ (F 16 3).toInt = 0 ∧ r9.toInt = 0) := hr9
    have hP : va_P G vwCl (LW cs h1 Q h2 q2 (vA (vA (vA F 4 (upd (F 4) 2 x19)) 5 (upd (upd (upd (upd (upd (upd (upd (F 5) 0 x10) 1 x11) 2 x12) 3 x13) 4 x14) 5 x15) 6 x16)) 6 (upd (upd (F 6) 2 x17) 3 x18)) (vA (vA (vA A 4 (vA (A 4) 1 g29)) 5 (vA (vA (vA (vA (vA (vA (vA (A 5) 7 g20) 8 g21) 9 g22) 10 g23) 11 g24) 12 g25) 13 g26)) 6 (vA (vA (A 6) 0 g27) 1 g28)) B D MF MA MD MB) H := hP.sub [95, 96, 97, 0, 1, 2, 3, 4, 5, 6, 7, 8, 9, 10, 98, 99, 100, 101, 102, 103, 104, 105, 106, 107, 108, 109, 110, 11, 12, 13, 14, 15, 16, 17, 18, 19, 20, 21, 22, 23, 24, 25, 26, 27, 28, 29, 30, 31, 32, 33, 34, 35, 36, 37, 38, 39, 111, 112, 113, 114, 115, 116, 117, 118, 119, 120, 40, 41, 42, 43, 44, 45, 46, 47, 48, 49, 50, 51, 52, 53, 54, 55, 56, 57, 58, 59, 60, 61, 62, 63, 64, 65, 66, 67, 68, 69, 70, 71, 72, 73, 74, 75, 76, 77, 78, 79, 80, 81, 82, 83, 84, 85, 86, 87, 88, 89, 90, 91, 92, 93, 94] rfl
    have hD : va_D (fun q : Nat => s.heap.size ≤ q) (LW cs h1 Q h2 q2 (vA (vA (vA F 4 (upd (F 4) 2 x19)) 5 (upd (upd (upd (upd (upd (upd (upd (F 5) 0 x10) 1 x11) 2 x12) 3 x13) 4 x14) 5 x15) 6 x16)) 6 (upd (upd (F 6) 2 x17) 3 x18)) (vA (vA (vA A 4 (vA (A 4) 1 g29)) 5 (vA (vA (vA (vA (vA (vA (vA (A 5) 7 g20) 8 g21) 9 g22) 10 g23) 11 g24) 12 g25) 13 g26)) 6 (vA (vA (A 6) 0 g27) 1 g28)) B D MF MA MD MB) := hD.sub [95, 96, 97, 0, 1, 2, 3, 4, 5, 6, 7, 8, 9, 10, 98, 99, 100, 101, 102, 103, 104, 105, 106, 107, 108, 109, 110, 11, 12, 13, 14, 15, 16, 17, 18, 19, 20, 21, 22, 23, 24, 25, 26, 27, 28, 29, 30, 31, 32, 33, 34, 35, 36, 37, 38, 39, 111, 112, 113, 114, 115, 116, 117, 118, 119, 120, 40, 41, 42, 43, 44, 45, 46, 47, 48, 49, 50, 51, 52, 53, 54, 55, 56, 57, 58, 59, 60, 61, 62, 63, 64, 65, 66, 67, 68, 69, 70, 71, 72, 73, 74, 75, 76, 77, 78, 79, 80, 81, 82, 83, 84, 85, 86, 87, 88, 89, 90, 91, 92, 93, 94] (by decide +kernel) rfl
    refine lv_pop hx hb dL_law_1963 rfl ?_
    refine lv_aload_n hx hb dL_law_1964 rfl (lv_at hl 1 rfl) ?_
    refine lv_aload_n hx hb dL_law_1965 rfl (lv_at hl 3 rfl) ?_
    refine lv_iload_n hx hb dL_law_1966 rfl (lv_at hl 0 rfl) ?_
    refine lv_iconst (v := 1) hx hb dL_law_1967 (by decide) ?_
    refine lv_iadd hx hb dL_law_1968 ?_
    refine va_sld hx hb hXs hbl hbA hS (inK t1 (by omega) (by omega)) dL_law_1969 ?_
    refine W.eq (g2 := F0 m 1970 ls [.int 0, .ref h2]) (by rw [← ea1]) ?_
    refine behDi (wr := (XLW cs h1 Q (vA (vA (vA F 4 (upd (F 4) 2 x19)) 5 (upd (upd (upd (upd (upd (upd (upd (F 5) 0 x10) 1 x11) 2 x12) 3 x13) 4 x14) 5 x15) 6 x16)) 6 (upd (upd (F 6) 2 x17) 3 x18)) (vA (vA (vA A 4 (vA (A 4) 1 g29)) 5 (vA (vA (vA (vA (vA (vA (vA (A 5) 7 g20) 8 g21) 9 g22) 10 g23) 11 g24) 12 g25) 13 g26)) 6 (vA (vA (A 6) 0 g27) 1 g28)) B D)) (runVD (As := [.int 0]) (rest := []) ⟨hx, hb, hml, hown, ht⟩ (sX11_back l G cs h2 q2 MF MA MD MB hM.1 0 hM.2.1 hM.2.2) okV_RL_264 ⟨(Nat.le_of_ble_eq_true rfl), (Nat.le_of_ble_eq_true rfl)⟩ hK hP hD [101, 102, 103, 104, 105, 106, 107, 108, 109, 110, 111, 112, 113, 114, 115, 116, 117, 118, 119, 120] rfl (by decide +kernel) rfl 101 rfl rfl hl.1 rfl (Nat.le_of_ble_eq_true rfl) dL_law_1970 ⟨(Nat.le_of_ble_eq_true rfl), (Nat.le_of_ble_eq_true rfl)⟩) hP hD hS (fun _ h => h) [101, 102, 103, 104, 105, 106, 107, 108, 109, 110, 111, 112, 113, 114, 115, 116, 117, 118, 119, 120] [0, 1, 2, 3, 4, 5, 6, 7, 8, 9, 10, 11, 12, 13, 14, 15, 16, 17, 18, 19, 20, 21, 22, 23, 24, 25, 26, 27, 28, 29, 30, 31, 32, 33, 34, 35, 36, 37, 38, 39, 40, 41, 42, 43, 44, 45, 46, 47, 48, 49, 50, 51, 52, 53, 54, 55, 56, 57, 58, 59, 60, 61, 62, 63, 64, 65, 66, 67, 68, 69, 70, 71, 72, 73, 74, 75, 76, 77, 78, 79, 80, 81, 82, 83, 84, 85, 86, 87, 88, 89, 90, 91, 92, 93, 94, 95, 96, 97, 98, 99, 100] rfl rfl (by decide +kernel) (by decide +kernel) (fun r9 u H locs hu hP hD hS => ?_)
    obtain ⟨g32, rfl⟩ : ∃ z, z = u := ⟨_, rfl⟩
    obtain ⟨r31, rfl⟩ : ∃ z, z = r9 := ⟨_, rfl⟩
    obtain ⟨hg32, hr31⟩ := hu
    have hg32 : AI 1 g32 := hg32
    have kk33 : (0 : Int32).toInt = 0 := by decide
    have hr31 : WG g32 ∧ ((r31.toInt = -2 ∧ ((0 : Int32).toInt < 0 ∨ 2 < (0 : Int32).toInt)) ∨ (0 ≤ (0 : Int32).toInt ∧ (0 : Int32).toInt ≤ 2 ∧ ((MA 3) (0 : Int32).toNatClampNeg).toInt = 0 ∧ r31.toInt = -6) ∨ (0 ≤ (0 : Int32).toInt ∧ (0 : Int32).toInt ≤ 2 ∧ ¬ ((MA 3) (0 : Int32).toNatClampNeg).toInt = 0 ∧ r31.toInt = 0)) := hr31
    have hP : va_P G vwCl (LW cs h1 Q h2 q2 (vA (vA (vA F 4 (upd (F 4) 2 x19)) 5 (upd (upd (upd (upd (upd (upd (upd (F 5) 0 x10) 1 x11) 2 x12) 3 x13) 4 x14) 5 x15) 6 x16)) 6 (upd (upd (F 6) 2 x17) 3 x18)) (vA (vA (vA A 4 (vA (A 4) 1 g29)) 5 (vA (vA (vA (vA (vA (vA (vA (A 5) 7 g20) 8 g21) 9 g22) 10 g23) 11 g24) 12 g25) 13 g26)) 6 (vA (vA (A 6) 0 g27) 1 g28)) B D MF (vA MA 1 g32) MD MB) H := hP
    have hD : va_D (fun q : Nat => s.heap.size ≤ q) (LW cs h1 Q h2 q2 (vA (vA (vA F 4 (upd (F 4) 2 x19)) 5 (upd (upd (upd (upd (upd (upd (upd (F 5) 0 x10) 1 x11) 2 x12) 3 x13) 4 x14) 5 x15) 6 x16)) 6 (upd (upd (F 6) 2 x17) 3 x18)) (vA (vA (vA A 4 (vA (A 4) 1 g29)) 5 (vA (vA (vA (vA (vA (vA (vA (A 5) 7 g20) 8 g21) 9 g22) 10 g23) 11 g24) 12 g25) 13 g26)) 6 (vA (vA (A 6) 0 g27) 1 g28)) B D MF (vA MA 1 g32) MD MB) := hD
    have n3_0 : (MA 3 (0 : Int32).toNatClampNeg).toInt = (MA 3 0).toInt := congrArg (fun z => (MA 3 z).toInt) (show (0 : Int32).toNatClampNeg = 0 by decide)
    have nim_0 := hR.1
    refine lv_pop hx hb dL_law_1973 rfl ?_
    refine lv_goto (tgt := 2156) hx hb dL_law_1974 (by decide) ?_
    exact kk (vA (vA (vA F 4 (upd (F 4) 2 x19)) 5 (upd (upd (upd (upd (upd (upd (upd (F 5) 0 x10) 1 x11) 2 x12) 3 x13) 4 x14) 5 x15) 6 x16)) 6 (upd (upd (F 6) 2 x17) 3 x18)) (vA (vA (vA A 4 (vA (A 4) 1 g29)) 5 (vA (vA (vA (vA (vA (vA (vA (A 5) 7 g20) 8 g21) 9 g22) 10 g23) 11 g24) 12 g25) 13 g26)) 6 (vA (vA (A 6) 0 g27) 1 g28)) B D MF (vA MA 1 g32) MD MB H locs ls ⟨hX.1, hX.2.1, hX.2.2.1, hX.2.2.2.1, (IB_arr (k := 1) (IB_put (k := 2) hX.2.2.2.2.1 (hbx19)) (AJ_full _)), (IB_arr (k := 13) (IB_arr (k := 12) (IB_arr (k := 11) (IB_arr (k := 10) (IB_arr (k := 9) (IB_arr (k := 8) (IB_arr (k := 7) (IB_put (k := 6) (IB_put (k := 5) (IB_put (k := 4) (IB_put (k := 3) (IB_put (k := 2) (IB_put (k := 1) (IB_put (k := 0) hX.2.2.2.2.2.1 (i32b _)) (i32b _)) (i32b _)) (i32b _)) (i32b _)) (hbx15)) (hbx16)) (AJ_full _)) (AJ_full _)) (AJ_full _)) hg23) (AJ_full _)) hg25) (AJ_full _)), (IB_arr (k := 1) (IB_arr (k := 0) (IB_put (k := 3) (IB_put (k := 2) hX.2.2.2.2.2.2.1 (i32b _)) (i32b _)) (AJ_full _)) (AJ_full _)), hX.2.2.2.2.2.2.2.1, hX.2.2.2.2.2.2.2.2.1, hX.2.2.2.2.2.2.2.2.2.1, hX.2.2.2.2.2.2.2.2.2.2.1, hX.2.2.2.2.2.2.2.2.2.2.2.1, hX.2.2.2.2.2.2.2.2.2.2.2.2.1, hX.2.2.2.2.2.2.2.2.2.2.2.2.2.1, hX.2.2.2.2.2.2.2.2.2.2.2.2.2.2.1, hX.2.2.2.2.2.2.2.2.2.2.2.2.2.2.2.1, hX.2.2.2.2.2.2.2.2.2.2.2.2.2.2.2.2.1, hX.2.2.2.2.2.2.2.2.2.2.2.2.2.2.2.2.2.1, hX.2.2.2.2.2.2.2.2.2.2.2.2.2.2.2.2.2.2.1, hX.2.2.2.2.2.2.2.2.2.2.2.2.2.2.2.2.2.2.2.1, hX.2.2.2.2.2.2.2.2.2.2.2.2.2.2.2.2.2.2.2.2.1, hX.2.2.2.2.2.2.2.2.2.2.2.2.2.2.2.2.2.2.2.2.2.1, hX.2.2.2.2.2.2.2.2.2.2.2.2.2.2.2.2.2.2.2.2.2.2.1, hX.2.2.2.2.2.2.2.2.2.2.2.2.2.2.2.2.2.2.2.2.2.2.2.1, hX.2.2.2.2.2.2.2.2.2.2.2.2.2.2.2.2.2.2.2.2.2.2.2.2.1, hX.2.2.2.2.2.2.2.2.2.2.2.2.2.2.2.2.2.2.2.2.2.2.2.2.2.1, hX.2.2.2.2.2.2.2.2.2.2.2.2.2.2.2.2.2.2.2.2.2.2.2.2.2.2⟩ ⟨(IM_arr (k := 1) hM.1 hg32), hr31.1, hM.2.2⟩ hR hP hD hS hl
  · refine behDi (wr := ((uX6 cs (Q 0 0) (fun _ => Q 0 1) (F 1) (A 1) (B 1) (D 1)) ++ ((uX9 cs (Q 0 1) (Q 2) (F 2) (A 2) (B 2) (D 2)) ++ ((uX3 cs (Q 0 2) (Q 3) (F 3) (A 3) (B 3) (D 3)) ++ ((uX5 cs (Q 0 7) (Q 7) (F 7) (A 7) (B 7) (D 7)) ++ ((uX0 cs (Q 0 8) (Q 8) (F 8) (A 8) (B 8) (D 8)) ++ ((uX1 cs (Q 0 9) (Q 9) (F 9) (A 9) (B 9) (D 9)) ++ ((uX4 cs (Q 0 10) (Q 10) (F 10) (A 10) (B 10) (D 10)) ++ ((uX2 cs (Q 0 11) (Q 11) (F 11) (A 11) (B 11) (D 11)) ++ ((uX7 cs (Q 0 20) (Q 12) (F 12) (A 12) (B 12) (D 12)) ++ ((uX7 cs (Q 0 21) (Q 13) (F 13) (A 13) (B 13) (D 13)) ++ ((uX7 cs (Q 0 22) (Q 14) (F 14) (A 14) (B 14) (D 14)) ++ ((uX7 cs (Q 0 23) (Q 15) (F 15) (A 15) (B 15) (D 15)) ++ ((uX8 cs (Q 0 30) (Q 16) (F 16) (A 16) (B 16) (D 16)) ++ ((uX3 cs (Q 16 0) (Q 17) (F 17) (A 17) (B 17) (D 17)) ++ ((uX8 cs (Q 0 32) (Q 20) (F 20) (A 20) (B 20) (D 20)) ++ ((uX3 cs (Q 20 0) (Q 21) (F 21) (A 21) (B 21) (D 21)) ++ ((uX5 cs (Q 8 10) (Q 22) (F 22) (A 22) (B 22) (D 22)) ++ ((uX5 cs (Q 8 11) (Q 23) (F 23) (A 23) (B 23) (D 23)) ++ ((uX5 cs (Q 8 12) (Q 24) (F 24) (A 24) (B 24) (D 24)) ++ ((uX5 cs (Q 8 13) (Q 25) (F 25) (A 25) (B 25) (D 25)) ++ ((uX5 cs (Q 8 14) (Q 26) (F 26) (A 26) (B 26) (D 26)) ++ (mS cs h2 q2 MF MA MD MB))))))))))))))))))))))) (runVD (As := [.int 1]) (rest := []) ⟨hx, hb, hml, hown, ht⟩ (sX10_back_1 l G cs h1 (Q 0) (F 0) (A 0) (B 0) (D 0) hX.1 (Q 4) (F 4) (A 4) (B 4) (D 4) hX.2.2.2.2.1 (Q 5) (F 5) (A 5) (B 5) (D 5) hX.2.2.2.2.2.1 (Q 6) (F 6) (A 6) (B 6) (D 6) hX.2.2.2.2.2.2.1 (Q 18) (F 18) (A 18) (B 18) (D 18) hX.2.2.2.2.2.2.2.2.2.2.2.2.2.2.2.2.2.2.1 (Q 19) (F 19) (A 19) (B 19) (D 19) hX.2.2.2.2.2.2.2.2.2.2.2.2.2.2.2.2.2.2.2.1) okV_RL_261 ⟨(Nat.le_of_ble_eq_true rfl), (Nat.le_of_ble_eq_true rfl)⟩ hK hP hD [0, 1, 2, 14, 15, 16, 17, 18, 19, 20, 21, 22, 23, 24, 25, 26, 66, 67, 68, 69, 70, 71, 72, 73, 74, 75] rfl (by decide +kernel) rfl 0 rfl rfl hl.1 rfl (Nat.le_of_ble_eq_true rfl) dL_law_1960 ⟨(Nat.le_of_ble_eq_true rfl), (Nat.le_of_ble_eq_true rfl)⟩) hP hD hS (fun _ h => h) [0, 1, 2, 14, 15, 16, 17, 18, 19, 20, 21, 22, 23, 24, 25, 26, 66, 67, 68, 69, 70, 71, 72, 73, 74, 75] [3, 4, 5, 6, 7, 8, 9, 10, 11, 12, 13, 27, 28, 29, 30, 31, 32, 33, 34, 35, 36, 37, 38, 39, 40, 41, 42, 43, 44, 45, 46, 47, 48, 49, 50, 51, 52, 53, 54, 55, 56, 57, 58, 59, 60, 61, 62, 63, 64, 65, 76, 77, 78, 79, 80, 81, 82, 83, 84, 85, 86, 87, 88, 89, 90, 91, 92, 93, 94, 95, 96, 97, 98, 99, 100, 101, 102, 103, 104, 105, 106, 107, 108, 109, 110, 111, 112, 113, 114, 115, 116, 117, 118, 119, 120] rfl rfl (by decide +kernel) (by decide +kernel) (fun r9 u H locs hu hP hD hS => ?_)
    obtain ⟨x35, x36, x37, x38, x39, x40, x41, x42, x43, x44, g45, g46, g47, g48, g49, g50, g51, g52, g53, g54⟩ := u
    obtain ⟨r34, rfl⟩ : ∃ z, z = r9 := ⟨_, rfl⟩
    obtain ⟨hbx40, hbx41, hbx44, hg48, hg50, hr34⟩ := hu
    have hbx40 : (0 : Int) ≤ x40.toInt ∧ x40.toInt ≤ 7 := hbx40
    have hbx41 : (0 : Int) ≤ x41.toInt ∧ x41.toInt ≤ 6 := hbx41
    have hbx44 : (0 : Int) ≤ x44.toInt ∧ x44.toInt ≤ 60 := hbx44
    have hg48 : AJ (0) 127 g48 := hg48
    have hg50 : AJ (0) 63 g50 := hg50
    have kk55 : (1 : Int32).toInt = 1 := by decide
    have hr34 : ((F 18 3).toInt = 0 ∧ r34.toInt = -6) ∨ (¬ (F 18 3).toInt = 0 ∧ r34.toInt = 0) := hr34
    have hP : va_P G vwCl (LW cs h1 Q h2 q2 (vA (vA (vA F 4 (upd (F 4) 2 x44)) 5 (upd (upd (upd (upd (upd (upd (upd (F 5) 0 x35) 1 x36) 2 x37) 3 x38) 4 x39) 5 x40) 6 x41)) 6 (upd (upd (F 6) 2 x42) 3 x43)) (vA (vA (vA A 4 (vA (A 4) 1 g54)) 5 (vA (vA (vA (vA (vA (vA (vA (A 5) 7 g45) 8 g46) 9 g47) 10 g48) 11 g49) 12 g50) 13 g51)) 6 (vA (vA (A 6) 0 g52) 1 g53)) B D MF MA MD MB) H := hP.sub [95, 96, 97, 0, 1, 2, 3, 4, 5, 6, 7, 8, 9, 10, 98, 99, 100, 101, 102, 103, 104, 105, 106, 107, 108, 109, 110, 11, 12, 13, 14, 15, 16, 17, 18, 19, 20, 21, 22, 23, 24, 25, 26, 27, 28, 29, 30, 31, 32, 33, 34, 35, 36, 37, 38, 39, 40, 41, 42, 43, 44, 45, 46, 47, 48, 49, 111, 112, 113, 114, 115, 116, 117, 118, 119, 120, 50, 51, 52, 53, 54, 55, 56, 57, 58, 59, 60, 61, 62, 63, 64, 65, 66, 67, 68, 69, 70, 71, 72, 73, 74, 75, 76, 77, 78, 79, 80, 81, 82, 83, 84, 85, 86, 87, 88, 89, 90, 91, 92, 93, 94] rfl
    have hD : va_D (fun q : Nat => s.heap.size ≤ q) (LW cs h1 Q h2 q2 (vA (vA (vA F 4 (upd (F 4) 2 x44)) 5 (upd (upd (upd (upd (upd (upd (upd (F 5) 0 x35) 1 x36) 2 x37) 3 x38) 4 x39) 5 x40) 6 x41)) 6 (upd (upd (F 6) 2 x42) 3 x43)) (vA (vA (vA A 4 (vA (A 4) 1 g54)) 5 (vA (vA (vA (vA (vA (vA (vA (A 5) 7 g45) 8 g46) 9 g47) 10 g48) 11 g49) 12 g50) 13 g51)) 6 (vA (vA (A 6) 0 g52) 1 g53)) B D MF MA MD MB) := hD.sub [95, 96, 97, 0, 1, 2, 3, 4, 5, 6, 7, 8, 9, 10, 98, 99, 100, 101, 102, 103, 104, 105, 106, 107, 108, 109, 110, 11, 12, 13, 14, 15, 16, 17, 18, 19, 20, 21, 22, 23, 24, 25, 26, 27, 28, 29, 30, 31, 32, 33, 34, 35, 36, 37, 38, 39, 40, 41, 42, 43, 44, 45, 46, 47, 48, 49, 111, 112, 113, 114, 115, 116, 117, 118, 119, 120, 50, 51, 52, 53, 54, 55, 56, 57, 58, 59, 60, 61, 62, 63, 64, 65, 66, 67, 68, 69, 70, 71, 72, 73, 74, 75, 76, 77, 78, 79, 80, 81, 82, 83, 84, 85, 86, 87, 88, 89, 90, 91, 92, 93, 94] (by decide +kernel) rfl
    refine lv_pop hx hb dL_law_1963 rfl ?_
    refine lv_aload_n hx hb dL_law_1964 rfl (lv_at hl 1 rfl) ?_
    refine lv_aload_n hx hb dL_law_1965 rfl (lv_at hl 3 rfl) ?_
    refine lv_iload_n hx hb dL_law_1966 rfl (lv_at hl 0 rfl) ?_
    refine lv_iconst (v := 1) hx hb dL_law_1967 (by decide) ?_
    refine lv_iadd hx hb dL_law_1968 ?_
    refine va_sld hx hb hXs hbl hbA hS (inK t1 (by omega) (by omega)) dL_law_1969 ?_
    refine W.eq (g2 := F0 m 1970 ls [.int 1, .ref h2]) (by rw [← ea1]) ?_
    refine behDi (wr := (XLW cs h1 Q (vA (vA (vA F 4 (upd (F 4) 2 x44)) 5 (upd (upd (upd (upd (upd (upd (upd (F 5) 0 x35) 1 x36) 2 x37) 3 x38) 4 x39) 5 x40) 6 x41)) 6 (upd (upd (F 6) 2 x42) 3 x43)) (vA (vA (vA A 4 (vA (A 4) 1 g54)) 5 (vA (vA (vA (vA (vA (vA (vA (A 5) 7 g45) 8 g46) 9 g47) 10 g48) 11 g49) 12 g50) 13 g51)) 6 (vA (vA (A 6) 0 g52) 1 g53)) B D)) (runVD (As := [.int 1]) (rest := []) ⟨hx, hb, hml, hown, ht⟩ (sX11_back l G cs h2 q2 MF MA MD MB hM.1 1 hM.2.1 hM.2.2) okV_RL_264 ⟨(Nat.le_of_ble_eq_true rfl), (Nat.le_of_ble_eq_true rfl)⟩ hK hP hD [101, 102, 103, 104, 105, 106, 107, 108, 109, 110, 111, 112, 113, 114, 115, 116, 117, 118, 119, 120] rfl (by decide +kernel) rfl 101 rfl rfl hl.1 rfl (Nat.le_of_ble_eq_true rfl) dL_law_1970 ⟨(Nat.le_of_ble_eq_true rfl), (Nat.le_of_ble_eq_true rfl)⟩) hP hD hS (fun _ h => h) [101, 102, 103, 104, 105, 106, 107, 108, 109, 110, 111, 112, 113, 114, 115, 116, 117, 118, 119, 120] [0, 1, 2, 3, 4, 5, 6, 7, 8, 9, 10, 11, 12, 13, 14, 15, 16, 17, 18, 19, 20, 21, 22, 23, 24, 25, 26, 27, 28, 29, 30, 31, 32, 33, 34, 35, 36, 37, 38, 39, 40, 41, 42, 43, 44, 45, 46, 47, 48, 49, 50, 51, 52, 53, 54, 55, 56, 57, 58, 59, 60, 61, 62, 63, 64, 65, 66, 67, 68, 69, 70, 71, 72, 73, 74, 75, 76, 77, 78, 79, 80, 81, 82, 83, 84, 85, 86, 87, 88, 89, 90, 91, 92, 93, 94, 95, 96, 97, 98, 99, 100] rfl rfl (by decide +kernel) (by decide +kernel) (fun r9 u H locs hu hP hD hS => ?_)
    obtain ⟨g57, rfl⟩ : ∃ z, z = u := ⟨_, rfl⟩
    obtain ⟨r56, rfl⟩ : ∃ z, z = r9 := ⟨_, rfl⟩
    obtain ⟨hg57, hr56⟩ := hu
    have hg57 : AI 1 g57 := hg57
    have kk58 : (1 : Int32).toInt = 1 := by decide
    have hr56 : WG g57 ∧ ((r56.toInt = -2 ∧ ((1 : Int32).toInt < 0 ∨ 2 < (1 : Int32).toInt)) ∨ (0 ≤ (1 : Int32).toInt ∧ (1 : Int32).toInt ≤ 2 ∧ ((MA 3) (1 : Int32).toNatClampNeg).toInt = 0 ∧ r56.toInt = -6) ∨ (0 ≤ (1 : Int32).toInt ∧ (1 : Int32).toInt ≤ 2 ∧ ¬ ((MA 3) (1 : Int32).toNatClampNeg).toInt = 0 ∧ r56.toInt = 0)) := hr56
    have hP : va_P G vwCl (LW cs h1 Q h2 q2 (vA (vA (vA F 4 (upd (F 4) 2 x44)) 5 (upd (upd (upd (upd (upd (upd (upd (F 5) 0 x35) 1 x36) 2 x37) 3 x38) 4 x39) 5 x40) 6 x41)) 6 (upd (upd (F 6) 2 x42) 3 x43)) (vA (vA (vA A 4 (vA (A 4) 1 g54)) 5 (vA (vA (vA (vA (vA (vA (vA (A 5) 7 g45) 8 g46) 9 g47) 10 g48) 11 g49) 12 g50) 13 g51)) 6 (vA (vA (A 6) 0 g52) 1 g53)) B D MF (vA MA 1 g57) MD MB) H := hP
    have hD : va_D (fun q : Nat => s.heap.size ≤ q) (LW cs h1 Q h2 q2 (vA (vA (vA F 4 (upd (F 4) 2 x44)) 5 (upd (upd (upd (upd (upd (upd (upd (F 5) 0 x35) 1 x36) 2 x37) 3 x38) 4 x39) 5 x40) 6 x41)) 6 (upd (upd (F 6) 2 x42) 3 x43)) (vA (vA (vA A 4 (vA (A 4) 1 g54)) 5 (vA (vA (vA (vA (vA (vA (vA (A 5) 7 g45) 8 g46) 9 g47) 10 g48) 11 g49) 12 g50) 13 g51)) 6 (vA (vA (A 6) 0 g52) 1 g53)) B D MF (vA MA 1 g57) MD MB) := hD
    have n3_1 : (MA 3 (1 : Int32).toNatClampNeg).toInt = (MA 3 1).toInt := congrArg (fun z => (MA 3 z).toInt) (show (1 : Int32).toNatClampNeg = 1 by decide)
    have nim_1 := hR.2.1
    refine lv_pop hx hb dL_law_1973 rfl ?_
    refine lv_goto (tgt := 2156) hx hb dL_law_1974 (by decide) ?_
    exact kk (vA (vA (vA F 4 (upd (F 4) 2 x44)) 5 (upd (upd (upd (upd (upd (upd (upd (F 5) 0 x35) 1 x36) 2 x37) 3 x38) 4 x39) 5 x40) 6 x41)) 6 (upd (upd (F 6) 2 x42) 3 x43)) (vA (vA (vA A 4 (vA (A 4) 1 g54)) 5 (vA (vA (vA (vA (vA (vA (vA (A 5) 7 g45) 8 g46) 9 g47) 10 g48) 11 g49) 12 g50) 13 g51)) 6 (vA (vA (A 6) 0 g52) 1 g53)) B D MF (vA MA 1 g57) MD MB H locs ls ⟨hX.1, hX.2.1, hX.2.2.1, hX.2.2.2.1, (IB_arr (k := 1) (IB_put (k := 2) hX.2.2.2.2.1 (hbx44)) (AJ_full _)), (IB_arr (k := 13) (IB_arr (k := 12) (IB_arr (k := 11) (IB_arr (k := 10) (IB_arr (k := 9) (IB_arr (k := 8) (IB_arr (k := 7) (IB_put (k := 6) (IB_put (k := 5) (IB_put (k := 4) (IB_put (k := 3) (IB_put (k := 2) (IB_put (k := 1) (IB_put (k := 0) hX.2.2.2.2.2.1 (i32b _)) (i32b _)) (i32b _)) (i32b _)) (i32b _)) (hbx40)) (hbx41)) (AJ_full _)) (AJ_full _)) (AJ_full _)) hg48) (AJ_full _)) hg50) (AJ_full _)), (IB_arr (k := 1) (IB_arr (k := 0) (IB_put (k := 3) (IB_put (k := 2) hX.2.2.2.2.2.2.1 (i32b _)) (i32b _)) (AJ_full _)) (AJ_full _)), hX.2.2.2.2.2.2.2.1, hX.2.2.2.2.2.2.2.2.1, hX.2.2.2.2.2.2.2.2.2.1, hX.2.2.2.2.2.2.2.2.2.2.1, hX.2.2.2.2.2.2.2.2.2.2.2.1, hX.2.2.2.2.2.2.2.2.2.2.2.2.1, hX.2.2.2.2.2.2.2.2.2.2.2.2.2.1, hX.2.2.2.2.2.2.2.2.2.2.2.2.2.2.1, hX.2.2.2.2.2.2.2.2.2.2.2.2.2.2.2.1, hX.2.2.2.2.2.2.2.2.2.2.2.2.2.2.2.2.1, hX.2.2.2.2.2.2.2.2.2.2.2.2.2.2.2.2.2.1, hX.2.2.2.2.2.2.2.2.2.2.2.2.2.2.2.2.2.2.1, hX.2.2.2.2.2.2.2.2.2.2.2.2.2.2.2.2.2.2.2.1, hX.2.2.2.2.2.2.2.2.2.2.2.2.2.2.2.2.2.2.2.2.1, hX.2.2.2.2.2.2.2.2.2.2.2.2.2.2.2.2.2.2.2.2.2.1, hX.2.2.2.2.2.2.2.2.2.2.2.2.2.2.2.2.2.2.2.2.2.2.1, hX.2.2.2.2.2.2.2.2.2.2.2.2.2.2.2.2.2.2.2.2.2.2.2.1, hX.2.2.2.2.2.2.2.2.2.2.2.2.2.2.2.2.2.2.2.2.2.2.2.2.1, hX.2.2.2.2.2.2.2.2.2.2.2.2.2.2.2.2.2.2.2.2.2.2.2.2.2.1, hX.2.2.2.2.2.2.2.2.2.2.2.2.2.2.2.2.2.2.2.2.2.2.2.2.2.2⟩ ⟨(IM_arr (k := 1) hM.1 hg57), hr56.1, hM.2.2⟩ hR hP hD hS hl
  · refine behDi (wr := ((uX6 cs (Q 0 0) (fun _ => Q 0 1) (F 1) (A 1) (B 1) (D 1)) ++ ((uX9 cs (Q 0 1) (Q 2) (F 2) (A 2) (B 2) (D 2)) ++ ((uX3 cs (Q 0 2) (Q 3) (F 3) (A 3) (B 3) (D 3)) ++ ((uX5 cs (Q 0 7) (Q 7) (F 7) (A 7) (B 7) (D 7)) ++ ((uX0 cs (Q 0 8) (Q 8) (F 8) (A 8) (B 8) (D 8)) ++ ((uX1 cs (Q 0 9) (Q 9) (F 9) (A 9) (B 9) (D 9)) ++ ((uX4 cs (Q 0 10) (Q 10) (F 10) (A 10) (B 10) (D 10)) ++ ((uX2 cs (Q 0 11) (Q 11) (F 11) (A 11) (B 11) (D 11)) ++ ((uX7 cs (Q 0 20) (Q 12) (F 12) (A 12) (B 12) (D 12)) ++ ((uX7 cs (Q 0 21) (Q 13) (F 13) (A 13) (B 13) (D 13)) ++ ((uX7 cs (Q 0 22) (Q 14) (F 14) (A 14) (B 14) (D 14)) ++ ((uX7 cs (Q 0 23) (Q 15) (F 15) (A 15) (B 15) (D 15)) ++ ((uX8 cs (Q 0 30) (Q 16) (F 16) (A 16) (B 16) (D 16)) ++ ((uX3 cs (Q 16 0) (Q 17) (F 17) (A 17) (B 17) (D 17)) ++ ((uX8 cs (Q 0 31) (Q 18) (F 18) (A 18) (B 18) (D 18)) ++ ((uX3 cs (Q 18 0) (Q 19) (F 19) (A 19) (B 19) (D 19)) ++ ((uX5 cs (Q 8 10) (Q 22) (F 22) (A 22) (B 22) (D 22)) ++ ((uX5 cs (Q 8 11) (Q 23) (F 23) (A 23) (B 23) (D 23)) ++ ((uX5 cs (Q 8 12) (Q 24) (F 24) (A 24) (B 24) (D 24)) ++ ((uX5 cs (Q 8 13) (Q 25) (F 25) (A 25) (B 25) (D 25)) ++ ((uX5 cs (Q 8 14) (Q 26) (F 26) (A 26) (B 26) (D 26)) ++ (mS cs h2 q2 MF MA MD MB))))))))))))))))))))))) (runVD (As := [.int 2]) (rest := []) ⟨hx, hb, hml, hown, ht⟩ (sX10_back_2 l G cs h1 (Q 0) (F 0) (A 0) (B 0) (D 0) hX.1 (Q 4) (F 4) (A 4) (B 4) (D 4) hX.2.2.2.2.1 (Q 5) (F 5) (A 5) (B 5) (D 5) hX.2.2.2.2.2.1 (Q 6) (F 6) (A 6) (B 6) (D 6) hX.2.2.2.2.2.2.1 (Q 20) (F 20) (A 20) (B 20) (D 20) hX.2.2.2.2.2.2.2.2.2.2.2.2.2.2.2.2.2.2.2.2.1 (Q 21) (F 21) (A 21) (B 21) (D 21) hX.2.2.2.2.2.2.2.2.2.2.2.2.2.2.2.2.2.2.2.2.2.1) okV_RL_261 ⟨(Nat.le_of_ble_eq_true rfl), (Nat.le_of_ble_eq_true rfl)⟩ hK hP hD [0, 1, 2, 14, 15, 16, 17, 18, 19, 20, 21, 22, 23, 24, 25, 26, 76, 77, 78, 79, 80, 81, 82, 83, 84, 85] rfl (by decide +kernel) rfl 0 rfl rfl hl.1 rfl (Nat.le_of_ble_eq_true rfl) dL_law_1960 ⟨(Nat.le_of_ble_eq_true rfl), (Nat.le_of_ble_eq_true rfl)⟩) hP hD hS (fun _ h => h) [0, 1, 2, 14, 15, 16, 17, 18, 19, 20, 21, 22, 23, 24, 25, 26, 76, 77, 78, 79, 80, 81, 82, 83, 84, 85] [3, 4, 5, 6, 7, 8, 9, 10, 11, 12, 13, 27, 28, 29, 30, 31, 32, 33, 34, 35, 36, 37, 38, 39, 40, 41, 42, 43, 44, 45, 46, 47, 48, 49, 50, 51, 52, 53, 54, 55, 56, 57, 58, 59, 60, 61, 62, 63, 64, 65, 66, 67, 68, 69, 70, 71, 72, 73, 74, 75, 86, 87, 88, 89, 90, 91, 92, 93, 94, 95, 96, 97, 98, 99, 100, 101, 102, 103, 104, 105, 106, 107, 108, 109, 110, 111, 112, 113, 114, 115, 116, 117, 118, 119, 120] rfl rfl (by decide +kernel) (by decide +kernel) (fun r9 u H locs hu hP hD hS => ?_)
    obtain ⟨x60, x61, x62, x63, x64, x65, x66, x67, x68, x69, g70, g71, g72, g73, g74, g75, g76, g77, g78, g79⟩ := u
    obtain ⟨r59, rfl⟩ : ∃ z, z = r9 := ⟨_, rfl⟩
    obtain ⟨hbx65, hbx66, hbx69, hg73, hg75, hr59⟩ := hu
    have hbx65 : (0 : Int) ≤ x65.toInt ∧ x65.toInt ≤ 7 := hbx65
    have hbx66 : (0 : Int) ≤ x66.toInt ∧ x66.toInt ≤ 6 := hbx66
    have hbx69 : (0 : Int) ≤ x69.toInt ∧ x69.toInt ≤ 60 := hbx69
    have hg73 : AJ (0) 127 g73 := hg73
    have hg75 : AJ (0) 63 g75 := hg75
    have kk80 : (2 : Int32).toInt = 2 := by decide
    have hr59 : ((F 20 3).toInt = 0 ∧ r59.toInt = -6) ∨ (¬ (F 20 3).toInt = 0 ∧ r59.toInt = 0) := hr59
    have hP : va_P G vwCl (LW cs h1 Q h2 q2 (vA (vA (vA F 4 (upd (F 4) 2 x69)) 5 (upd (upd (upd (upd (upd (upd (upd (F 5) 0 x60) 1 x61) 2 x62) 3 x63) 4 x64) 5 x65) 6 x66)) 6 (upd (upd (F 6) 2 x67) 3 x68)) (vA (vA (vA A 4 (vA (A 4) 1 g79)) 5 (vA (vA (vA (vA (vA (vA (vA (A 5) 7 g70) 8 g71) 9 g72) 10 g73) 11 g74) 12 g75) 13 g76)) 6 (vA (vA (A 6) 0 g77) 1 g78)) B D MF MA MD MB) H := hP.sub [95, 96, 97, 0, 1, 2, 3, 4, 5, 6, 7, 8, 9, 10, 98, 99, 100, 101, 102, 103, 104, 105, 106, 107, 108, 109, 110, 11, 12, 13, 14, 15, 16, 17, 18, 19, 20, 21, 22, 23, 24, 25, 26, 27, 28, 29, 30, 31, 32, 33, 34, 35, 36, 37, 38, 39, 40, 41, 42, 43, 44, 45, 46, 47, 48, 49, 50, 51, 52, 53, 54, 55, 56, 57, 58, 59, 111, 112, 113, 114, 115, 116, 117, 118, 119, 120, 60, 61, 62, 63, 64, 65, 66, 67, 68, 69, 70, 71, 72, 73, 74, 75, 76, 77, 78, 79, 80, 81, 82, 83, 84, 85, 86, 87, 88, 89, 90, 91, 92, 93, 94] rfl
    have hD : va_D (fun q : Nat => s.heap.size ≤ q) (LW cs h1 Q h2 q2 (vA (vA (vA F 4 (upd (F 4) 2 x69)) 5 (upd (upd (upd (upd (upd (upd (upd (F 5) 0 x60) 1 x61) 2 x62) 3 x63) 4 x64) 5 x65) 6 x66)) 6 (upd (upd (F 6) 2 x67) 3 x68)) (vA (vA (vA A 4 (vA (A 4) 1 g79)) 5 (vA (vA (vA (vA (vA (vA (vA (A 5) 7 g70) 8 g71) 9 g72) 10 g73) 11 g74) 12 g75) 13 g76)) 6 (vA (vA (A 6) 0 g77) 1 g78)) B D MF MA MD MB) := hD.sub [95, 96, 97, 0, 1, 2, 3, 4, 5, 6, 7, 8, 9, 10, 98, 99, 100, 101, 102, 103, 104, 105, 106, 107, 108, 109, 110, 11, 12, 13, 14, 15, 16, 17, 18, 19, 20, 21, 22, 23, 24, 25, 26, 27, 28, 29, 30, 31, 32, 33, 34, 35, 36, 37, 38, 39, 40, 41, 42, 43, 44, 45, 46, 47, 48, 49, 50, 51, 52, 53, 54, 55, 56, 57, 58, 59, 111, 112, 113, 114, 115, 116, 117, 118, 119, 120, 60, 61, 62, 63, 64, 65, 66, 67, 68, 69, 70, 71, 72, 73, 74, 75, 76, 77, 78, 79, 80, 81, 82, 83, 84, 85, 86, 87, 88, 89, 90, 91, 92, 93, 94] (by decide +kernel) rfl
    refine lv_pop hx hb dL_law_1963 rfl ?_
    refine lv_aload_n hx hb dL_law_1964 rfl (lv_at hl 1 rfl) ?_
    refine lv_aload_n hx hb dL_law_1965 rfl (lv_at hl 3 rfl) ?_
    refine lv_iload_n hx hb dL_law_1966 rfl (lv_at hl 0 rfl) ?_
    refine lv_iconst (v := 1) hx hb dL_law_1967 (by decide) ?_
    refine lv_iadd hx hb dL_law_1968 ?_
    refine va_sld hx hb hXs hbl hbA hS (inK t1 (by omega) (by omega)) dL_law_1969 ?_
    refine W.eq (g2 := F0 m 1970 ls [.int 2, .ref h2]) (by rw [← ea1]) ?_
    refine behDi (wr := (XLW cs h1 Q (vA (vA (vA F 4 (upd (F 4) 2 x69)) 5 (upd (upd (upd (upd (upd (upd (upd (F 5) 0 x60) 1 x61) 2 x62) 3 x63) 4 x64) 5 x65) 6 x66)) 6 (upd (upd (F 6) 2 x67) 3 x68)) (vA (vA (vA A 4 (vA (A 4) 1 g79)) 5 (vA (vA (vA (vA (vA (vA (vA (A 5) 7 g70) 8 g71) 9 g72) 10 g73) 11 g74) 12 g75) 13 g76)) 6 (vA (vA (A 6) 0 g77) 1 g78)) B D)) (runVD (As := [.int 2]) (rest := []) ⟨hx, hb, hml, hown, ht⟩ (sX11_back l G cs h2 q2 MF MA MD MB hM.1 2 hM.2.1 hM.2.2) okV_RL_264 ⟨(Nat.le_of_ble_eq_true rfl), (Nat.le_of_ble_eq_true rfl)⟩ hK hP hD [101, 102, 103, 104, 105, 106, 107, 108, 109, 110, 111, 112, 113, 114, 115, 116, 117, 118, 119, 120] rfl (by decide +kernel) rfl 101 rfl rfl hl.1 rfl (Nat.le_of_ble_eq_true rfl) dL_law_1970 ⟨(Nat.le_of_ble_eq_true rfl), (Nat.le_of_ble_eq_true rfl)⟩) hP hD hS (fun _ h => h) [101, 102, 103, 104, 105, 106, 107, 108, 109, 110, 111, 112, 113, 114, 115, 116, 117, 118, 119, 120] [0, 1, 2, 3, 4, 5, 6, 7, 8, 9, 10, 11, 12, 13, 14, 15, 16, 17, 18, 19, 20, 21, 22, 23, 24, 25, 26, 27, 28, 29, 30, 31, 32, 33, 34, 35, 36, 37, 38, 39, 40, 41, 42, 43, 44, 45, 46, 47, 48, 49, 50, 51, 52, 53, 54, 55, 56, 57, 58, 59, 60, 61, 62, 63, 64, 65, 66, 67, 68, 69, 70, 71, 72, 73, 74, 75, 76, 77, 78, 79, 80, 81, 82, 83, 84, 85, 86, 87, 88, 89, 90, 91, 92, 93, 94, 95, 96, 97, 98, 99, 100] rfl rfl (by decide +kernel) (by decide +kernel) (fun r9 u H locs hu hP hD hS => ?_)
    obtain ⟨g82, rfl⟩ : ∃ z, z = u := ⟨_, rfl⟩
    obtain ⟨r81, rfl⟩ : ∃ z, z = r9 := ⟨_, rfl⟩
    obtain ⟨hg82, hr81⟩ := hu
    have hg82 : AI 1 g82 := hg82
    have kk83 : (2 : Int32).toInt = 2 := by decide
    have hr81 : WG g82 ∧ ((r81.toInt = -2 ∧ ((2 : Int32).toInt < 0 ∨ 2 < (2 : Int32).toInt)) ∨ (0 ≤ (2 : Int32).toInt ∧ (2 : Int32).toInt ≤ 2 ∧ ((MA 3) (2 : Int32).toNatClampNeg).toInt = 0 ∧ r81.toInt = -6) ∨ (0 ≤ (2 : Int32).toInt ∧ (2 : Int32).toInt ≤ 2 ∧ ¬ ((MA 3) (2 : Int32).toNatClampNeg).toInt = 0 ∧ r81.toInt = 0)) := hr81
    have hP : va_P G vwCl (LW cs h1 Q h2 q2 (vA (vA (vA F 4 (upd (F 4) 2 x69)) 5 (upd (upd (upd (upd (upd (upd (upd (F 5) 0 x60) 1 x61) 2 x62) 3 x63) 4 x64) 5 x65) 6 x66)) 6 (upd (upd (F 6) 2 x67) 3 x68)) (vA (vA (vA A 4 (vA (A 4) 1 g79)) 5 (vA (vA (vA (vA (vA (vA (vA (A 5) 7 g70) 8 g71) 9 g72) 10 g73) 11 g74) 12 g75) 13 g76)) 6 (vA (vA (A 6) 0 g77) 1 g78)) B D MF (vA MA 1 g82) MD MB) H := hP
    have hD : va_D (fun q : Nat => s.heap.size ≤ q) (LW cs h1 Q h2 q2 (vA (vA (vA F 4 (upd (F 4) 2 x69)) 5 (upd (upd (upd (upd (upd (upd (upd (F 5) 0 x60) 1 x61) 2 x62) 3 x63) 4 x64) 5 x65) 6 x66)) 6 (upd (upd (F 6) 2 x67) 3 x68)) (vA (vA (vA A 4 (vA (A 4) 1 g79)) 5 (vA (vA (vA (vA (vA (vA (vA (A 5) 7 g70) 8 g71) 9 g72) 10 g73) 11 g74) 12 g75) 13 g76)) 6 (vA (vA (A 6) 0 g77) 1 g78)) B D MF (vA MA 1 g82) MD MB) := hD
    have n3_2 : (MA 3 (2 : Int32).toNatClampNeg).toInt = (MA 3 2).toInt := congrArg (fun z => (MA 3 z).toInt) (show (2 : Int32).toNatClampNeg = 2 by decide)
    have nim_2 := hR.2.2.1
    refine lv_pop hx hb dL_law_1973 rfl ?_
    refine lv_goto (tgt := 2156) hx hb dL_law_1974 (by decide) ?_
    exact kk (vA (vA (vA F 4 (upd (F 4) 2 x69)) 5 (upd (upd (upd (upd (upd (upd (upd (F 5) 0 x60) 1 x61) 2 x62) 3 x63) 4 x64) 5 x65) 6 x66)) 6 (upd (upd (F 6) 2 x67) 3 x68)) (vA (vA (vA A 4 (vA (A 4) 1 g79)) 5 (vA (vA (vA (vA (vA (vA (vA (A 5) 7 g70) 8 g71) 9 g72) 10 g73) 11 g74) 12 g75) 13 g76)) 6 (vA (vA (A 6) 0 g77) 1 g78)) B D MF (vA MA 1 g82) MD MB H locs ls ⟨hX.1, hX.2.1, hX.2.2.1, hX.2.2.2.1, (IB_arr (k := 1) (IB_put (k := 2) hX.2.2.2.2.1 (hbx69)) (AJ_full _)), (IB_arr (k := 13) (IB_arr (k := 12) (IB_arr (k := 11) (IB_arr (k := 10) (IB_arr (k := 9) (IB_arr (k := 8) (IB_arr (k := 7) (IB_put (k := 6) (IB_put (k := 5) (IB_put (k := 4) (IB_put (k := 3) (IB_put (k := 2) (IB_put (k := 1) (IB_put (k := 0) hX.2.2.2.2.2.1 (i32b _)) (i32b _)) (i32b _)) (i32b _)) (i32b _)) (hbx65)) (hbx66)) (AJ_full _)) (AJ_full _)) (AJ_full _)) hg73) (AJ_full _)) hg75) (AJ_full _)), (IB_arr (k := 1) (IB_arr (k := 0) (IB_put (k := 3) (IB_put (k := 2) hX.2.2.2.2.2.2.1 (i32b _)) (i32b _)) (AJ_full _)) (AJ_full _)), hX.2.2.2.2.2.2.2.1, hX.2.2.2.2.2.2.2.2.1, hX.2.2.2.2.2.2.2.2.2.1, hX.2.2.2.2.2.2.2.2.2.2.1, hX.2.2.2.2.2.2.2.2.2.2.2.1, hX.2.2.2.2.2.2.2.2.2.2.2.2.1, hX.2.2.2.2.2.2.2.2.2.2.2.2.2.1, hX.2.2.2.2.2.2.2.2.2.2.2.2.2.2.1, hX.2.2.2.2.2.2.2.2.2.2.2.2.2.2.2.1, hX.2.2.2.2.2.2.2.2.2.2.2.2.2.2.2.2.1, hX.2.2.2.2.2.2.2.2.2.2.2.2.2.2.2.2.2.1, hX.2.2.2.2.2.2.2.2.2.2.2.2.2.2.2.2.2.2.1, hX.2.2.2.2.2.2.2.2.2.2.2.2.2.2.2.2.2.2.2.1, hX.2.2.2.2.2.2.2.2.2.2.2.2.2.2.2.2.2.2.2.2.1, hX.2.2.2.2.2.2.2.2.2.2.2.2.2.2.2.2.2.2.2.2.2.1, hX.2.2.2.2.2.2.2.2.2.2.2.2.2.2.2.2.2.2.2.2.2.2.1, hX.2.2.2.2.2.2.2.2.2.2.2.2.2.2.2.2.2.2.2.2.2.2.2.1, hX.2.2.2.2.2.2.2.2.2.2.2.2.2.2.2.2.2.2.2.2.2.2.2.2.1, hX.2.2.2.2.2.2.2.2.2.2.2.2.2.2.2.2.2.2.2.2.2.2.2.2.2.1, hX.2.2.2.2.2.2.2.2.2.2.2.2.2.2.2.2.2.2.2.2.2.2.2.2.2.2⟩ ⟨(IM_arr (k := 1) hM.1 hg82), hr81.1, hM.2.2⟩ hR hP hD hS hl

set_option maxRecDepth 100000 in
set_option maxHeartbeats 16000000 in
theorem law_61 {p : Program} {l : Launch} {e : Env} {s : State} {m : MethodId} {below : List Frame} {meth : Method} {c : Code} {b L : Nat} {xs : Nat → Int32} {G : va_G} {cs : Nat → ClassId} {h1 : Nat} {Q : Nat → Nat → Nat} {h2 : Nat} {q2 : Nat → Nat} {sd : Nat → Nat × Nat} {i : Int32} : LCase p l e s m below meth c b G cs h1 Q h2 q2 i L xs sd 61 := by
  intro C0 hL hK hQ hQM hi0 hi6 kk F A B D MF MA MD MB H locs ls hX hM hR hP hD hS hl
  obtain ⟨hx, hb, hr, hml, hown, hts, hXs, hbl, hlocks, hgv⟩ := id C0
  have hown : s.vm.findClass RL = some m.cls := hown
  have ht : ∀ w ∈ tb, w.before #[Value.ref b] s = true := fun w h => hts w (List.mem_filter.mp h).1
  have hbA : ¬ (fun q : Nat => s.heap.size ≤ q) b := Nat.not_le.mpr hbl
  have t1 : (i + 1).toInt = i.toInt + 1 := addT rfl (by decide) (by omega)
  obtain ⟨a1, ea1⟩ : ∃ z : Int32, z = xs (i + 1).toNatClampNeg := ⟨_, rfl⟩
  have t2 : (i + 2).toInt = i.toInt + 2 := addT rfl (by decide) (by omega)
  obtain ⟨a2, ea2⟩ : ∃ z : Int32, z = xs (i + 2).toNatClampNeg := ⟨_, rfl⟩
  have t3 : (i + 3).toInt = i.toInt + 3 := addT rfl (by decide) (by omega)
  obtain ⟨a3, ea3⟩ : ∃ z : Int32, z = xs (i + 3).toNatClampNeg := ⟨_, rfl⟩
  refine lv_tableIn (off := 1944) (tgt := 1977) hx hb dL_law_33 (by decide) (by decide) (by decide) (by decide) ?_
  refine lv_aload_n hx hb dL_law_1977 rfl (lv_at hl 2 rfl) ?_
  refine lv_aload_n hx hb dL_law_1978 rfl (lv_at hl 3 rfl) ?_
  refine lv_iload_n hx hb dL_law_1979 rfl (lv_at hl 0 rfl) ?_
  refine lv_iconst (v := 1) hx hb dL_law_1980 (by decide) ?_
  refine lv_iadd hx hb dL_law_1981 ?_
  refine va_sld hx hb hXs hbl hbA hS (inK t1 (by omega) (by omega)) dL_law_1982 ?_
  refine W.eq (g2 := F0 m 1983 ls [.int a1, .ref h1]) (by rw [← ea1]) ?_
  refine lv_aload_n hx hb dL_law_1983 rfl (lv_at hl 3 rfl) ?_
  refine lv_iload_n hx hb dL_law_1984 rfl (lv_at hl 0 rfl) ?_
  refine lv_iconst (v := 2) hx hb dL_law_1985 (by decide) ?_
  refine lv_iadd hx hb dL_law_1986 ?_
  refine va_sld hx hb hXs hbl hbA hS (inK t2 (by omega) (by omega)) dL_law_1987 ?_
  refine W.eq (g2 := F0 m 1988 ls [.int a2, .int a1, .ref h1]) (by rw [← ea2]) ?_
  refine lv_aload_n hx hb dL_law_1988 rfl (lv_at hl 3 rfl) ?_
  refine lv_iload_n hx hb dL_law_1989 rfl (lv_at hl 0 rfl) ?_
  refine lv_iconst (v := 3) hx hb dL_law_1990 (by decide) ?_
  refine lv_iadd hx hb dL_law_1991 ?_
  refine va_sld hx hb hXs hbl hbA hS (inK t3 (by omega) (by omega)) dL_law_1992 ?_
  refine W.eq (g2 := F0 m 1993 ls [.int a3, .int a2, .int a1, .ref h1]) (by rw [← ea3]) ?_
  rcases csN4 a1 with hN | hN | rfl | rfl | rfl | rfl
  · have bb1 := i32b a1
    refine behR (runVP (As := [.int a1, .int a2, .int a3]) (rest := []) ⟨hx, hb, hml, hown, ht⟩ (sX10_row_lo l G cs h1 (Q 0) (F 0) (A 0) (B 0) (D 0) hX.1 a1 a2 a3 (by omega)) okV_RL_265 ⟨(Nat.le_of_ble_eq_true rfl), (Nat.le_of_ble_eq_true rfl)⟩ hK hP [0, 1, 2] rfl 0 rfl rfl hl.1 rfl (Nat.le_of_ble_eq_true rfl) dL_law_1993 ⟨(Nat.le_of_ble_eq_true rfl), (Nat.le_of_ble_eq_true rfl)⟩) hP hS (fun _ h => h) (fun r2 H locs hr2 hP hS => ?_)
    have hr2 : r2.toInt = -2 := hr2
    refine lv_aload_n hx hb dL_law_1996 rfl (lv_at hl 1 rfl) ?_
    refine lv_aload_n hx hb dL_law_1997 rfl (lv_at hl 3 rfl) ?_
    refine lv_iload_n hx hb dL_law_1998 rfl (lv_at hl 0 rfl) ?_
    refine lv_iconst (v := 1) hx hb dL_law_1999 (by decide) ?_
    refine lv_iadd hx hb dL_law_2000 ?_
    refine va_sld hx hb hXs hbl hbA hS (inK t1 (by omega) (by omega)) dL_law_2001 ?_
    refine W.eq (g2 := F0 m 2002 ls [.int a1, .ref h2, .int r2]) (by rw [← ea1]) ?_
    refine lv_aload_n hx hb dL_law_2002 rfl (lv_at hl 3 rfl) ?_
    refine lv_iload_n hx hb dL_law_2003 rfl (lv_at hl 0 rfl) ?_
    refine lv_iconst (v := 2) hx hb dL_law_2004 (by decide) ?_
    refine lv_iadd hx hb dL_law_2005 ?_
    refine va_sld hx hb hXs hbl hbA hS (inK t2 (by omega) (by omega)) dL_law_2006 ?_
    refine W.eq (g2 := F0 m 2007 ls [.int a2, .int a1, .ref h2, .int r2]) (by rw [← ea2]) ?_
    refine lv_aload_n hx hb dL_law_2007 rfl (lv_at hl 3 rfl) ?_
    refine lv_iload_n hx hb dL_law_2008 rfl (lv_at hl 0 rfl) ?_
    refine lv_iconst (v := 3) hx hb dL_law_2009 (by decide) ?_
    refine lv_iadd hx hb dL_law_2010 ?_
    refine va_sld hx hb hXs hbl hbA hS (inK t3 (by omega) (by omega)) dL_law_2011 ?_
    refine W.eq (g2 := F0 m 2012 ls [.int a3, .int a2, .int a1, .ref h2, .int r2]) (by rw [← ea3]) ?_
    refine behDi (wr := (XLW cs h1 Q F A B D)) (runVD (As := [.int a1, .int a2, .int a3]) (rest := [.int r2]) ⟨hx, hb, hml, hown, ht⟩ (sX11_row l G cs h2 q2 MF MA MD MB hM.1 a1 a2 a3) okV_RL_268 ⟨(Nat.le_of_ble_eq_true rfl), (Nat.le_of_ble_eq_true rfl)⟩ hK hP hD [101, 102, 103, 104, 105, 106, 107, 108, 109, 110, 111, 112, 113, 114, 115, 116, 117, 118, 119, 120] rfl (by decide +kernel) rfl 101 rfl rfl hl.1 rfl (Nat.le_of_ble_eq_true rfl) dL_law_2012 ⟨(Nat.le_of_ble_eq_true rfl), (Nat.le_of_ble_eq_true rfl)⟩) hP hD hS (fun _ h => h) [101, 102, 103, 104, 105, 106, 107, 108, 109, 110, 111, 112, 113, 114, 115, 116, 117, 118, 119, 120] [0, 1, 2, 3, 4, 5, 6, 7, 8, 9, 10, 11, 12, 13, 14, 15, 16, 17, 18, 19, 20, 21, 22, 23, 24, 25, 26, 27, 28, 29, 30, 31, 32, 33, 34, 35, 36, 37, 38, 39, 40, 41, 42, 43, 44, 45, 46, 47, 48, 49, 50, 51, 52, 53, 54, 55, 56, 57, 58, 59, 60, 61, 62, 63, 64, 65, 66, 67, 68, 69, 70, 71, 72, 73, 74, 75, 76, 77, 78, 79, 80, 81, 82, 83, 84, 85, 86, 87, 88, 89, 90, 91, 92, 93, 94, 95, 96, 97, 98, 99, 100] rfl rfl (by decide +kernel) (by decide +kernel) (fun r9 u H locs hu hP hD hS => ?_)
    obtain ⟨g4, g5, y6⟩ := u
    obtain ⟨r3, rfl⟩ : ∃ z, z = r9 := ⟨_, rfl⟩
    obtain ⟨hg4, hg5, hr3⟩ := hu
    have hg4 : AI 31 g4 := hg4
    have hg5 : AI 32 g5 := hg5
    have hr3 : RowM r3 a1 a2 a3 (MA 31) g4 (MA 32) g5 := hr3
    have hP : va_P G vwCl (LW cs h1 Q h2 q2 F A B D MF (vA (vA MA 31 g4) 32 g5) MD (vA MB 33 y6)) H := hP
    have hD : va_D (fun q : Nat => s.heap.size ≤ q) (LW cs h1 Q h2 q2 F A B D MF (vA (vA MA 31 g4) 32 g5) MD (vA MB 33 y6)) := hD
    have zr3 := RowMe hr3
    have e31 : g4 = MA 31 := by
      rcases hr3 with q9 | q9 | q9
      · exact q9.2.2.1
      · exact q9.2.2.2.2.1
      · exact absurd q9.2.1 (by omega)
    have e32 : g5 = MA 32 := by
      rcases hr3 with q9 | q9 | q9
      · exact q9.2.2.2
      · exact q9.2.2.2.2.2
      · exact absurd q9.2.1 (by omega)
    refine lv_icmp_eq (tgt := 2156) hx hb dL_law_2015 (by decide) (fun _ => ?_) (fun c9 => False.elim (c9 (Int32.toInt_inj.mp (by have qr2 := hr2; have qr3 := zr3; omega))))
    exact kk F A B D MF (vA (vA MA 31 g4) 32 g5) MD (vA MB 33 y6) H locs ls ⟨hX.1, hX.2.1, hX.2.2.1, hX.2.2.2.1, hX.2.2.2.2.1, hX.2.2.2.2.2.1, hX.2.2.2.2.2.2.1, hX.2.2.2.2.2.2.2.1, hX.2.2.2.2.2.2.2.2.1, hX.2.2.2.2.2.2.2.2.2.1, hX.2.2.2.2.2.2.2.2.2.2.1, hX.2.2.2.2.2.2.2.2.2.2.2.1, hX.2.2.2.2.2.2.2.2.2.2.2.2.1, hX.2.2.2.2.2.2.2.2.2.2.2.2.2.1, hX.2.2.2.2.2.2.2.2.2.2.2.2.2.2.1, hX.2.2.2.2.2.2.2.2.2.2.2.2.2.2.2.1, hX.2.2.2.2.2.2.2.2.2.2.2.2.2.2.2.2.1, hX.2.2.2.2.2.2.2.2.2.2.2.2.2.2.2.2.2.1, hX.2.2.2.2.2.2.2.2.2.2.2.2.2.2.2.2.2.2.1, hX.2.2.2.2.2.2.2.2.2.2.2.2.2.2.2.2.2.2.2.1, hX.2.2.2.2.2.2.2.2.2.2.2.2.2.2.2.2.2.2.2.2.1, hX.2.2.2.2.2.2.2.2.2.2.2.2.2.2.2.2.2.2.2.2.2.1, hX.2.2.2.2.2.2.2.2.2.2.2.2.2.2.2.2.2.2.2.2.2.2.1, hX.2.2.2.2.2.2.2.2.2.2.2.2.2.2.2.2.2.2.2.2.2.2.2.1, hX.2.2.2.2.2.2.2.2.2.2.2.2.2.2.2.2.2.2.2.2.2.2.2.2.1, hX.2.2.2.2.2.2.2.2.2.2.2.2.2.2.2.2.2.2.2.2.2.2.2.2.2.1, hX.2.2.2.2.2.2.2.2.2.2.2.2.2.2.2.2.2.2.2.2.2.2.2.2.2.2⟩ ⟨(IM_arr (k := 32) (IM_arr (k := 31) hM.1 hg4) hg5), hM.2.1, hM.2.2⟩ ⟨hR.1, hR.2.1, hR.2.2.1, (by show SR (F 12 1) (F 12 2) (F 12 3) (g4 0) (g5 0); rw [e31, e32]; exact hR.2.2.2.1), (by show SR (F 13 1) (F 13 2) (F 13 3) (g4 1) (g5 1); rw [e31, e32]; exact hR.2.2.2.2.1), (by show SR (F 14 1) (F 14 2) (F 14 3) (g4 2) (g5 2); rw [e31, e32]; exact hR.2.2.2.2.2.1), (by show SR (F 15 1) (F 15 2) (F 15 3) (g4 3) (g5 3); rw [e31, e32]; exact hR.2.2.2.2.2.2)⟩ hP hD hS hl
  · have bb7 := i32b a1
    refine behR (runVP (As := [.int a1, .int a2, .int a3]) (rest := []) ⟨hx, hb, hml, hown, ht⟩ (sX10_row_hi l G cs h1 (Q 0) (F 0) (A 0) (B 0) (D 0) hX.1 a1 a2 a3 (by omega)) okV_RL_265 ⟨(Nat.le_of_ble_eq_true rfl), (Nat.le_of_ble_eq_true rfl)⟩ hK hP [0, 1, 2] rfl 0 rfl rfl hl.1 rfl (Nat.le_of_ble_eq_true rfl) dL_law_1993 ⟨(Nat.le_of_ble_eq_true rfl), (Nat.le_of_ble_eq_true rfl)⟩) hP hS (fun _ h => h) (fun r8 H locs hr8 hP hS => ?_)
    have hr8 : r8.toInt = -2 := hr8
    refine lv_aload_n hx hb dL_law_1996 rfl (lv_at hl 1 rfl) ?_
    refine lv_aload_n hx hb dL_law_1997 rfl (lv_at hl 3 rfl) ?_
    refine lv_iload_n hx hb dL_law_1998 rfl (lv_at hl 0 rfl) ?_
    refine lv_iconst (v := 1) hx hb dL_law_1999 (by decide) ?_
    refine lv_iadd hx hb dL_law_2000 ?_
    refine va_sld hx hb hXs hbl hbA hS (inK t1 (by omega) (by omega)) dL_law_2001 ?_
    refine W.eq (g2 := F0 m 2002 ls [.int a1, .ref h2, .int r8]) (by rw [← ea1]) ?_
    refine lv_aload_n hx hb dL_law_2002 rfl (lv_at hl 3 rfl) ?_
    refine lv_iload_n hx hb dL_law_2003 rfl (lv_at hl 0 rfl) ?_
    refine lv_iconst (v := 2) hx hb dL_law_2004 (by decide) ?_
    refine lv_iadd hx hb dL_law_2005 ?_
    refine va_sld hx hb hXs hbl hbA hS (inK t2 (by omega) (by omega)) dL_law_2006 ?_
    refine W.eq (g2 := F0 m 2007 ls [.int a2, .int a1, .ref h2, .int r8]) (by rw [← ea2]) ?_
    refine lv_aload_n hx hb dL_law_2007 rfl (lv_at hl 3 rfl) ?_
    refine lv_iload_n hx hb dL_law_2008 rfl (lv_at hl 0 rfl) ?_
    refine lv_iconst (v := 3) hx hb dL_law_2009 (by decide) ?_
    refine lv_iadd hx hb dL_law_2010 ?_
    refine va_sld hx hb hXs hbl hbA hS (inK t3 (by omega) (by omega)) dL_law_2011 ?_
    refine W.eq (g2 := F0 m 2012 ls [.int a3, .int a2, .int a1, .ref h2, .int r8]) (by rw [← ea3]) ?_
    refine behDi (wr := (XLW cs h1 Q F A B D)) (runVD (As := [.int a1, .int a2, .int a3]) (rest := [.int r8]) ⟨hx, hb, hml, hown, ht⟩ (sX11_row l G cs h2 q2 MF MA MD MB hM.1 a1 a2 a3) okV_RL_268 ⟨(Nat.le_of_ble_eq_true rfl), (Nat.le_of_ble_eq_true rfl)⟩ hK hP hD [101, 102, 103, 104, 105, 106, 107, 108, 109, 110, 111, 112, 113, 114, 115, 116, 117, 118, 119, 120] rfl (by decide +kernel) rfl 101 rfl rfl hl.1 rfl (Nat.le_of_ble_eq_true rfl) dL_law_2012 ⟨(Nat.le_of_ble_eq_true rfl), (Nat.le_of_ble_eq_true rfl)⟩) hP hD hS (fun _ h => h) [101, 102, 103, 104, 105, 106, 107, 108, 109, 110, 111, 112, 113, 114, 115, 116, 117, 118, 119, 120] [0, 1, 2, 3, 4, 5, 6, 7, 8, 9, 10, 11, 12, 13, 14, 15, 16, 17, 18, 19, 20, 21, 22, 23, 24, 25, 26, 27, 28, 29, 30, 31, 32, 33, 34, 35, 36, 37, 38, 39, 40, 41, 42, 43, 44, 45, 46, 47, 48, 49, 50, 51, 52, 53, 54, 55, 56, 57, 58, 59, 60, 61, 62, 63, 64, 65, 66, 67, 68, 69, 70, 71, 72, 73, 74, 75, 76, 77, 78, 79, 80, 81, 82, 83, 84, 85, 86, 87, 88, 89, 90, 91, 92, 93, 94, 95, 96, 97, 98, 99, 100] rfl rfl (by decide +kernel) (by decide +kernel) (fun r9 u H locs hu hP hD hS => ?_)
    obtain ⟨g10, g11, y12⟩ := u
    obtain ⟨r9, rfl⟩ : ∃ z, z = r9 := ⟨_, rfl⟩
    obtain ⟨hg10, hg11, hr9⟩ := hu
    have hg10 : AI 31 g10 := hg10
    have hg11 : AI 32 g11 := hg11
    have hr9 : RowM r9 a1 a2 a3 (MA 31) g10 (MA 32) g11 := hr9
    have hP : va_P G vwCl (LW cs h1 Q h2 q2 F A B D MF (vA (vA MA 31 g10) 32 g11) MD (vA MB 33 y12)) H := hP
    have hD : va_D (fun q : Nat => s.heap.size ≤ q) (LW cs h1 Q h2 q2 F A B D MF (vA (vA MA 31 g10) 32 g11) MD (vA MB 33 y12)) := hD
    have zr9 := RowMe hr9
    have e31 : g10 = MA 31 := by
      rcases hr9 with q9 | q9 | q9
      · exact q9.2.2.1
      · exact q9.2.2.2.2.1
      · exact absurd q9.2.1 (by omega)
    have e32 : g11 = MA 32 := by
      rcases hr9 with q9 | q9 | q9
      · exact q9.2.2.2
      · exact q9.2.2.2.2.2
      · exact absurd q9.2.1 (by omega)
    refine lv_icmp_eq (tgt := 2156) hx hb dL_law_2015 (by decide) (fun _ => ?_) (fun c9 => False.elim (c9 (Int32.toInt_inj.mp (by have qr8 := hr8; have qr9 := zr9; omega))))
    exact kk F A B D MF (vA (vA MA 31 g10) 32 g11) MD (vA MB 33 y12) H locs ls ⟨hX.1, hX.2.1, hX.2.2.1, hX.2.2.2.1, hX.2.2.2.2.1, hX.2.2.2.2.2.1, hX.2.2.2.2.2.2.1, hX.2.2.2.2.2.2.2.1, hX.2.2.2.2.2.2.2.2.1, hX.2.2.2.2.2.2.2.2.2.1, hX.2.2.2.2.2.2.2.2.2.2.1, hX.2.2.2.2.2.2.2.2.2.2.2.1, hX.2.2.2.2.2.2.2.2.2.2.2.2.1, hX.2.2.2.2.2.2.2.2.2.2.2.2.2.1, hX.2.2.2.2.2.2.2.2.2.2.2.2.2.2.1, hX.2.2.2.2.2.2.2.2.2.2.2.2.2.2.2.1, hX.2.2.2.2.2.2.2.2.2.2.2.2.2.2.2.2.1, hX.2.2.2.2.2.2.2.2.2.2.2.2.2.2.2.2.2.1, hX.2.2.2.2.2.2.2.2.2.2.2.2.2.2.2.2.2.2.1, hX.2.2.2.2.2.2.2.2.2.2.2.2.2.2.2.2.2.2.2.1, hX.2.2.2.2.2.2.2.2.2.2.2.2.2.2.2.2.2.2.2.2.1, hX.2.2.2.2.2.2.2.2.2.2.2.2.2.2.2.2.2.2.2.2.2.1, hX.2.2.2.2.2.2.2.2.2.2.2.2.2.2.2.2.2.2.2.2.2.2.1, hX.2.2.2.2.2.2.2.2.2.2.2.2.2.2.2.2.2.2.2.2.2.2.2.1, hX.2.2.2.2.2.2.2.2.2.2.2.2.2.2.2.2.2.2.2.2.2.2.2.2.1, hX.2.2.2.2.2.2.2.2.2.2.2.2.2.2.2.2.2.2.2.2.2.2.2.2.2.1, hX.2.2.2.2.2.2.2.2.2.2.2.2.2.2.2.2.2.2.2.2.2.2.2.2.2.2⟩ ⟨(IM_arr (k := 32) (IM_arr (k := 31) hM.1 hg10) hg11), hM.2.1, hM.2.2⟩ ⟨hR.1, hR.2.1, hR.2.2.1, (by show SR (F 12 1) (F 12 2) (F 12 3) (g10 0) (g11 0); rw [e31, e32]; exact hR.2.2.2.1), (by show SR (F 13 1) (F 13 2) (F 13 3) (g10 1) (g11 1); rw [e31, e32]; exact hR.2.2.2.2.1), (by show SR (F 14 1) (F 14 2) (F 14 3) (g10 2) (g11 2); rw [e31, e32]; exact hR.2.2.2.2.2.1), (by show SR (F 15 1) (F 15 2) (F 15 3) (g10 3) (g11 3); rw [e31, e32]; exact hR.2.2.2.2.2.2)⟩ hP hD hS hl
  · refine behDi (wr := ((uX6 cs (Q 0 0) (fun _ => Q 0 1) (F 1) (A 1) (B 1) (D 1)) ++ ((uX9 cs (Q 0 1) (Q 2) (F 2) (A 2) (B 2) (D 2)) ++ ((uX3 cs (Q 0 2) (Q 3) (F 3) (A 3) (B 3) (D 3)) ++ ((uX8 cs (Q 0 3) (Q 4) (F 4) (A 4) (B 4) (D 4)) ++ ((uX3 cs (Q 4 0) (Q 5) (F 5) (A 5) (B 5) (D 5)) ++ ((uX5 cs (Q 0 6) (Q 6) (F 6) (A 6) (B 6) (D 6)) ++ ((uX5 cs (Q 0 7) (Q 7) (F 7) (A 7) (B 7) (D 7)) ++ ((uX0 cs (Q 0 8) (Q 8) (F 8) (A 8) (B 8) (D 8)) ++ ((uX1 cs (Q 0 9) (Q 9) (F 9) (A 9) (B 9) (D 9)) ++ ((uX4 cs (Q 0 10) (Q 10) (F 10) (A 10) (B 10) (D 10)) ++ ((uX2 cs (Q 0 11) (Q 11) (F 11) (A 11) (B 11) (D 11)) ++ ((uX7 cs (Q 0 21) (Q 13) (F 13) (A 13) (B 13) (D 13)) ++ ((uX7 cs (Q 0 22) (Q 14) (F 14) (A 14) (B 14) (D 14)) ++ ((uX7 cs (Q 0 23) (Q 15) (F 15) (A 15) (B 15) (D 15)) ++ ((uX8 cs (Q 0 30) (Q 16) (F 16) (A 16) (B 16) (D 16)) ++ ((uX3 cs (Q 16 0) (Q 17) (F 17) (A 17) (B 17) (D 17)) ++ ((uX8 cs (Q 0 31) (Q 18) (F 18) (A 18) (B 18) (D 18)) ++ ((uX3 cs (Q 18 0) (Q 19) (F 19) (A 19) (B 19) (D 19)) ++ ((uX8 cs (Q 0 32) (Q 20) (F 20) (A 20) (B 20) (D 20)) ++ ((uX3 cs (Q 20 0) (Q 21) (F 21) (A 21) (B 21) (D 21)) ++ ((uX5 cs (Q 8 10) (Q 22) (F 22) (A 22) (B 22) (D 22)) ++ ((uX5 cs (Q 8 11) (Q 23) (F 23) (A 23) (B 23) (D 23)) ++ ((uX5 cs (Q 8 12) (Q 24) (F 24) (A 24) (B 24) (D 24)) ++ ((uX5 cs (Q 8 13) (Q 25) (F 25) (A 25) (B 25) (D 25)) ++ ((uX5 cs (Q 8 14) (Q 26) (F 26) (A 26) (B 26) (D 26)) ++ (mS cs h2 q2 MF MA MD MB))))))))))))))))))))))))))) (runVD (As := [.int 0, .int a2, .int a3]) (rest := []) ⟨hx, hb, hml, hown, ht⟩ (sX10_row_0 l G cs h1 (Q 0) (F 0) (A 0) (B 0) (D 0) hX.1 (Q 12) (F 12) (A 12) (B 12) (D 12) hX.2.2.2.2.2.2.2.2.2.2.2.2.1 a2 a3) okV_RL_265 ⟨(Nat.le_of_ble_eq_true rfl), (Nat.le_of_ble_eq_true rfl)⟩ hK hP hD [0, 1, 2, 48, 49] rfl (by decide +kernel) rfl 0 rfl rfl hl.1 rfl (Nat.le_of_ble_eq_true rfl) dL_law_1993 ⟨(Nat.le_of_ble_eq_true rfl), (Nat.le_of_ble_eq_true rfl)⟩) hP hD hS (fun _ h => h) [0, 1, 2, 48, 49] [3, 4, 5, 6, 7, 8, 9, 10, 11, 12, 13, 14, 15, 16, 17, 18, 19, 20, 21, 22, 23, 24, 25, 26, 27, 28, 29, 30, 31, 32, 33, 34, 35, 36, 37, 38, 39, 40, 41, 42, 43, 44, 45, 46, 47, 50, 51, 52, 53, 54, 55, 56, 57, 58, 59, 60, 61, 62, 63, 64, 65, 66, 67, 68, 69, 70, 71, 72, 73, 74, 75, 76, 77, 78, 79, 80, 81, 82, 83, 84, 85, 86, 87, 88, 89, 90, 91, 92, 93, 94, 95, 96, 97, 98, 99, 100, 101, 102, 103, 104, 105, 106, 107, 108, 109, 110, 111, 112, 113, 114, 115, 116, 117, 118, 119, 120] rfl rfl (by decide +kernel) (by decide +kernel) (fun r9 u H locs hu hP hD hS => ?_)
    obtain ⟨x14, x15, x16, y17⟩ := u
    obtain ⟨r13, rfl⟩ : ∃ z, z = r9 := ⟨_, rfl⟩
    obtain ⟨hbx14, hbx16, hr13⟩ := hu
    have hbx14 : (0 : Int) ≤ x14.toInt ∧ x14.toInt ≤ 1 := hbx14
    have hbx16 : (0 : Int) ≤ x16.toInt ∧ x16.toInt ≤ 60 := hbx16
    have kk18 : (0 : Int32).toInt = 0 := by decide
    have hr13 : (r13.toInt = -2 ∧ (a2.toInt < 0 ∨ 3 < a2.toInt ∨ 60 < a3.toInt) ∧ x14.toInt = (F 12 1).toInt ∧ x15.toInt = (F 12 2).toInt ∧ x16.toInt = (F 12 3).toInt) ∨ (r13.toInt = -3 ∧ 0 ≤ a2.toInt ∧ a2.toInt ≤ 3 ∧ a3.toInt < 0 ∧ x14.toInt = (F 12 1).toInt ∧ x15.toInt = (F 12 2).toInt ∧ x16.toInt = (F 12 3).toInt) ∨ (r13.toInt = 0 ∧ 0 ≤ a2.toInt ∧ a2.toInt ≤ 3 ∧ 0 ≤ a3.toInt ∧ a3.toInt ≤ 60 ∧ x14.toInt = 1 ∧ x15.toInt = a2.toInt ∧ x16.toInt = a3.toInt) := hr13
    have hP : va_P G vwCl (LW cs h1 Q h2 q2 (vA F 12 (upd (upd (upd (F 12) 1 x14) 2 x15) 3 x16)) A (vA B 12 (vA (B 12) 0 y17)) D MF MA MD MB) H := hP.sub [116, 117, 118, 0, 1, 2, 3, 4, 5, 6, 7, 8, 9, 10, 11, 12, 13, 14, 15, 16, 17, 18, 19, 20, 21, 22, 23, 24, 25, 26, 27, 28, 29, 30, 31, 32, 33, 34, 35, 36, 37, 38, 39, 40, 41, 42, 43, 44, 119, 120, 45, 46, 47, 48, 49, 50, 51, 52, 53, 54, 55, 56, 57, 58, 59, 60, 61, 62, 63, 64, 65, 66, 67, 68, 69, 70, 71, 72, 73, 74, 75, 76, 77, 78, 79, 80, 81, 82, 83, 84, 85, 86, 87, 88, 89, 90, 91, 92, 93, 94, 95, 96, 97, 98, 99, 100, 101, 102, 103, 104, 105, 106, 107, 108, 109, 110, 111, 112, 113, 114, 115] rfl
    have hD : va_D (fun q : Nat => s.heap.size ≤ q) (LW cs h1 Q h2 q2 (vA F 12 (upd (upd (upd (F 12) 1 x14) 2 x15) 3 x16)) A (vA B 12 (vA (B 12) 0 y17)) D MF MA MD MB) := hD.sub [116, 117, 118, 0, 1, 2, 3, 4, 5, 6, 7, 8, 9, 10, 11, 12, 13, 14, 15, 16, 17, 18, 19, 20, 21, 22, 23, 24, 25, 26, 27, 28, 29, 30, 31, 32, 33, 34, 35, 36, 37, 38, 39, 40, 41, 42, 43, 44, 119, 120, 45, 46, 47, 48, 49, 50, 51, 52, 53, 54, 55, 56, 57, 58, 59, 60, 61, 62, 63, 64, 65, 66, 67, 68, 69, 70, 71, 72, 73, 74, 75, 76, 77, 78, 79, 80, 81, 82, 83, 84, 85, 86, 87, 88, 89, 90, 91, 92, 93, 94, 95, 96, 97, 98, 99, 100, 101, 102, 103, 104, 105, 106, 107, 108, 109, 110, 111, 112, 113, 114, 115] (by decide +kernel) rfl
    refine lv_aload_n hx hb dL_law_1996 rfl (lv_at hl 1 rfl) ?_
    refine lv_aload_n hx hb dL_law_1997 rfl (lv_at hl 3 rfl) ?_
    refine lv_iload_n hx hb dL_law_1998 rfl (lv_at hl 0 rfl) ?_
    refine lv_iconst (v := 1) hx hb dL_law_1999 (by decide) ?_
    refine lv_iadd hx hb dL_law_2000 ?_
    refine va_sld hx hb hXs hbl hbA hS (inK t1 (by omega) (by omega)) dL_law_2001 ?_
    refine W.eq (g2 := F0 m 2002 ls [.int 0, .ref h2, .int r13]) (by rw [← ea1]) ?_
    refine lv_aload_n hx hb dL_law_2002 rfl (lv_at hl 3 rfl) ?_
    refine lv_iload_n hx hb dL_law_2003 rfl (lv_at hl 0 rfl) ?_
    refine lv_iconst (v := 2) hx hb dL_law_2004 (by decide) ?_
    refine lv_iadd hx hb dL_law_2005 ?_
    refine va_sld hx hb hXs hbl hbA hS (inK t2 (by omega) (by omega)) dL_law_2006 ?_
    refine W.eq (g2 := F0 m 2007 ls [.int a2, .int 0, .ref h2, .int r13]) (by rw [← ea2]) ?_
    refine lv_aload_n hx hb dL_law_2007 rfl (lv_at hl 3 rfl) ?_
    refine lv_iload_n hx hb dL_law_2008 rfl (lv_at hl 0 rfl) ?_
    refine lv_iconst (v := 3) hx hb dL_law_2009 (by decide) ?_
    refine lv_iadd hx hb dL_law_2010 ?_
    refine va_sld hx hb hXs hbl hbA hS (inK t3 (by omega) (by omega)) dL_law_2011 ?_
    refine W.eq (g2 := F0 m 2012 ls [.int a3, .int a2, .int 0, .ref h2, .int r13]) (by rw [← ea3]) ?_
    refine behDi (wr := (XLW cs h1 Q (vA F 12 (upd (upd (upd (F 12) 1 x14) 2 x15) 3 x16)) A (vA B 12 (vA (B 12) 0 y17)) D)) (runVD (As := [.int 0, .int a2, .int a3]) (rest := [.int r13]) ⟨hx, hb, hml, hown, ht⟩ (sX11_row l G cs h2 q2 MF MA MD MB hM.1 0 a2 a3) okV_RL_268 ⟨(Nat.le_of_ble_eq_true rfl), (Nat.le_of_ble_eq_true rfl)⟩ hK hP hD [101, 102, 103, 104, 105, 106, 107, 108, 109, 110, 111, 112, 113, 114, 115, 116, 117, 118, 119, 120] rfl (by decide +kernel) rfl 101 rfl rfl hl.1 rfl (Nat.le_of_ble_eq_true rfl) dL_law_2012 ⟨(Nat.le_of_ble_eq_true rfl), (Nat.le_of_ble_eq_true rfl)⟩) hP hD hS (fun _ h => h) [101, 102, 103, 104, 105, 106, 107, 108, 109, 110, 111, 112, 113, 114, 115, 116, 117, 118, 119, 120] [0, 1, 2, 3, 4, 5, 6, 7, 8, 9, 10, 11, 12, 13, 14, 15, 16, 17, 18, 19, 20, 21, 22, 23, 24, 25, 26, 27, 28, 29, 30, 31, 32, 33, 34, 35, 36, 37, 38, 39, 40, 41, 42, 43, 44, 45, 46, 47, 48, 49, 50, 51, 52, 53, 54, 55, 56, 57, 58, 59, 60, 61, 62, 63, 64, 65, 66, 67, 68, 69, 70, 71, 72, 73, 74, 75, 76, 77, 78, 79, 80, 81, 82, 83, 84, 85, 86, 87, 88, 89, 90, 91, 92, 93, 94, 95, 96, 97, 98, 99, 100] rfl rfl (by decide +kernel) (by decide +kernel) (fun r9 u H locs hu hP hD hS => ?_)
    obtain ⟨g20, g21, y22⟩ := u
    obtain ⟨r19, rfl⟩ : ∃ z, z = r9 := ⟨_, rfl⟩
    obtain ⟨hg20, hg21, hr19⟩ := hu
    have hg20 : AI 31 g20 := hg20
    have hg21 : AI 32 g21 := hg21
    have kk23 : (0 : Int32).toInt = 0 := by decide
    have hr19 : RowM r19 (0 : Int32) a2 a3 (MA 31) g20 (MA 32) g21 := hr19
    have hP : va_P G vwCl (LW cs h1 Q h2 q2 (vA F 12 (upd (upd (upd (F 12) 1 x14) 2 x15) 3 x16)) A (vA B 12 (vA (B 12) 0 y17)) D MF (vA (vA MA 31 g20) 32 g21) MD (vA MB 33 y22)) H := hP
    have hD : va_D (fun q : Nat => s.heap.size ≤ q) (LW cs h1 Q h2 q2 (vA F 12 (upd (upd (upd (F 12) 1 x14) 2 x15) 3 x16)) A (vA B 12 (vA (B 12) 0 y17)) D MF (vA (vA MA 31 g20) 32 g21) MD (vA MB 33 y22)) := hD
    have zr19 := RowMe hr19
    have hr31 := RowM31 (k := 0) hr19 (by decide)
    have hr32 := RowM32 (k := 0) hr19 (by decide)
    refine lv_icmp_eq (tgt := 2156) hx hb dL_law_2015 (by decide) (fun _ => ?_) (fun c9 => False.elim (c9 (Int32.toInt_inj.mp (by have qr13 := hr13; have qr19 := zr19; omega))))
    exact kk (vA F 12 (upd (upd (upd (F 12) 1 x14) 2 x15) 3 x16)) A (vA B 12 (vA (B 12) 0 y17)) D MF (vA (vA MA 31 g20) 32 g21) MD (vA MB 33 y22) H locs ls ⟨hX.1, hX.2.1, hX.2.2.1, hX.2.2.2.1, hX.2.2.2.2.1, hX.2.2.2.2.2.1, hX.2.2.2.2.2.2.1, hX.2.2.2.2.2.2.2.1, hX.2.2.2.2.2.2.2.2.1, hX.2.2.2.2.2.2.2.2.2.1, hX.2.2.2.2.2.2.2.2.2.2.1, hX.2.2.2.2.2.2.2.2.2.2.2.1, (IB_put (k := 3) (IB_put (k := 2) (IB_put (k := 1) hX.2.2.2.2.2.2.2.2.2.2.2.2.1 (hbx14)) (i32b _)) (hbx16)), hX.2.2.2.2.2.2.2.2.2.2.2.2.2.1, hX.2.2.2.2.2.2.2.2.2.2.2.2.2.2.1, hX.2.2.2.2.2.2.2.2.2.2.2.2.2.2.2.1, hX.2.2.2.2.2.2.2.2.2.2.2.2.2.2.2.2.1, hX.2.2.2.2.2.2.2.2.2.2.2.2.2.2.2.2.2.1, hX.2.2.2.2.2.2.2.2.2.2.2.2.2.2.2.2.2.2.1, hX.2.2.2.2.2.2.2.2.2.2.2.2.2.2.2.2.2.2.2.1, hX.2.2.2.2.2.2.2.2.2.2.2.2.2.2.2.2.2.2.2.2.1, hX.2.2.2.2.2.2.2.2.2.2.2.2.2.2.2.2.2.2.2.2.2.1, hX.2.2.2.2.2.2.2.2.2.2.2.2.2.2.2.2.2.2.2.2.2.2.1, hX.2.2.2.2.2.2.2.2.2.2.2.2.2.2.2.2.2.2.2.2.2.2.2.1, hX.2.2.2.2.2.2.2.2.2.2.2.2.2.2.2.2.2.2.2.2.2.2.2.2.1, hX.2.2.2.2.2.2.2.2.2.2.2.2.2.2.2.2.2.2.2.2.2.2.2.2.2.1, hX.2.2.2.2.2.2.2.2.2.2.2.2.2.2.2.2.2.2.2.2.2.2.2.2.2.2⟩ ⟨(IM_arr (k := 32) (IM_arr (k := 31) hM.1 hg20) hg21), hM.2.1, hM.2.2⟩ ⟨hR.1, hR.2.1, hR.2.2.1, (RowSR (k := 0) hr19 hR.2.2.2.1 (by decide) (by decide) hr13), (by show SR (F 13 1) (F 13 2) (F 13 3) (g20 1) (g21 1); rw [hr31 1 (by decide), hr32 1 (by decide)]; exact hR.2.2.2.2.1), (by show SR (F 14 1) (F 14 2) (F 14 3) (g20 2) (g21 2); rw [hr31 2 (by decide), hr32 2 (by decide)]; exact hR.2.2.2.2.2.1), (by show SR (F 15 1) (F 15 2) (F 15 3) (g20 3) (g21 3); rw [hr31 3 (by decide), hr32 3 (by decide)]; exact hR.2.2.2.2.2.2)⟩ hP hD hS hl
  · refine behDi (wr := ((uX6 cs (Q 0 0) (fun _ => Q 0 1) (F 1) (A 1) (B 1) (D 1)) ++ ((uX9 cs (Q 0 1) (Q 2) (F 2) (A 2) (B 2) (D 2)) ++ ((uX3 cs (Q 0 2) (Q 3) (F 3) (A 3) (B 3) (D 3)) ++ ((uX8 cs (Q 0 3) (Q 4) (F 4) (A 4) (B 4) (D 4)) ++ ((uX3 cs (Q 4 0) (Q 5) (F 5) (A 5) (B 5) (D 5)) ++ ((uX5 cs (Q 0 6) (Q 6) (F 6) (A 6) (B 6) (D 6)) ++ ((uX5 cs (Q 0 7) (Q 7) (F 7) (A 7) (B 7) (D 7)) ++ ((uX0 cs (Q 0 8) (Q 8) (F 8) (A 8) (B 8) (D 8)) ++ ((uX1 cs (Q 0 9) (Q 9) (F 9) (A 9) (B 9) (D 9)) ++ ((uX4 cs (Q 0 10) (Q 10) (F 10) (A 10) (B 10) (D 10)) ++ ((uX2 cs (Q 0 11) (Q 11) (F 11) (A 11) (B 11) (D 11)) ++ ((uX7 cs (Q 0 20) (Q 12) (F 12) (A 12) (B 12) (D 12)) ++ ((uX7 cs (Q 0 22) (Q 14) (F 14) (A 14) (B 14) (D 14)) ++ ((uX7 cs (Q 0 23) (Q 15) (F 15) (A 15) (B 15) (D 15)) ++ ((uX8 cs (Q 0 30) (Q 16) (F 16) (A 16) (B 16) (D 16)) ++ ((uX3 cs (Q 16 0) (Q 17) (F 17) (A 17) (B 17) (D 17)) ++ ((uX8 cs (Q 0 31) (Q 18) (F 18) (A 18) (B 18) (D 18)) ++ ((uX3 cs (Q 18 0) (Q 19) (F 19) (A 19) (B 19) (D 19)) ++ ((uX8 cs (Q 0 32) (Q 20) (F 20) (A 20) (B 20) (D 20)) ++ ((uX3 cs (Q 20 0) (Q 21) (F 21) (A 21) (B 21) (D 21)) ++ ((uX5 cs (Q 8 10) (Q 22) (F 22) (A 22) (B 22) (D 22)) ++ ((uX5 cs (Q 8 11) (Q 23) (F 23) (A 23) (B 23) (D 23)) ++ ((uX5 cs (Q 8 12) (Q 24) (F 24) (A 24) (B 24) (D 24)) ++ ((uX5 cs (Q 8 13) (Q 25) (F 25) (A 25) (B 25) (D 25)) ++ ((uX5 cs (Q 8 14) (Q 26) (F 26) (A 26) (B 26) (D 26)) ++ (mS cs h2 q2 MF MA MD MB))))))))))))))))))))))))))) (runVD (As := [.int 1, .int a2, .int a3]) (rest := []) ⟨hx, hb, hml, hown, ht⟩ (sX10_row_1 l G cs h1 (Q 0) (F 0) (A 0) (B 0) (D 0) hX.1 (Q 13) (F 13) (A 13) (B 13) (D 13) hX.2.2.2.2.2.2.2.2.2.2.2.2.2.1 a2 a3) okV_RL_265 ⟨(Nat.le_of_ble_eq_true rfl), (Nat.le_of_ble_eq_true rfl)⟩ hK hP hD [0, 1, 2, 50, 51] rfl (by decide +kernel) rfl 0 rfl rfl hl.1 rfl (Nat.le_of_ble_eq_true rfl) dL_law_1993 ⟨(Nat.le_of_ble_eq_true rfl), (Nat.le_of_ble_eq_true rfl)⟩) hP hD hS (fun _ h => h) [0, 1, 2, 50, 51] [3, 4, 5, 6, 7, 8, 9, 10, 11, 12, 13, 14, 15, 16, 17, 18, 19, 20, 21, 22, 23, 24, 25, 26, 27, 28, 29, 30, 31, 32, 33, 34, 35, 36, 37, 38, 39, 40, 41, 42, 43, 44, 45, 46, 47, 48, 49, 52, 53, 54, 55, 56, 57, 58, 59, 60, 61, 62, 63, 64, 65, 66, 67, 68, 69, 70, 71, 72, 73, 74, 75, 76, 77, 78, 79, 80, 81, 82, 83, 84, 85, 86, 87, 88, 89, 90, 91, 92, 93, 94, 95, 96, 97, 98, 99, 100, 101, 102, 103, 104, 105, 106, 107, 108, 109, 110, 111, 112, 113, 114, 115, 116, 117, 118, 119, 120] rfl rfl (by decide +kernel) (by decide +kernel) (fun r9 u H locs hu hP hD hS => ?_)
    obtain ⟨x25, x26, x27, y28⟩ := u
    obtain ⟨r24, rfl⟩ : ∃ z, z = r9 := ⟨_, rfl⟩
    obtain ⟨hbx25, hbx27, hr24⟩ := hu
    have hbx25 : (0 : Int) ≤ x25.toInt ∧ x25.toInt ≤ 1 := hbx25
    have hbx27 : (0 : Int) ≤ x27.toInt ∧ x27.toInt ≤ 60 := hbx27
    have kk29 : (1 : Int32).toInt = 1 := by decide
    have hr24 : (r24.toInt = -2 ∧ (a2.toInt < 0 ∨ 3 < a2.toInt ∨ 60 < a3.toInt) ∧ x25.toInt = (F 13 1).toInt ∧ x26.toInt = (F 13 2).toInt ∧ x27.toInt = (F 13 3).toInt) ∨ (r24.toInt = -3 ∧ 0 ≤ a2.toInt ∧ a2.toInt ≤ 3 ∧ a3.toInt < 0 ∧ x25.toInt = (F 13 1).toInt ∧ x26.toInt = (F 13 2).toInt ∧ x27.toInt = (F 13 3).toInt) ∨ (r24.toInt = 0 ∧ 0 ≤ a2.toInt ∧ a2.toInt ≤ 3 ∧ 0 ≤ a3.toInt ∧ a3.toInt ≤ 60 ∧ x25.toInt = 1 ∧ x26.toInt = a2.toInt ∧ x27.toInt = a3.toInt) := hr24
    have hP : va_P G vwCl (LW cs h1 Q h2 q2 (vA F 13 (upd (upd (upd (F 13) 1 x25) 2 x26) 3 x27)) A (vA B 13 (vA (B 13) 0 y28)) D MF MA MD MB) H := hP.sub [116, 117, 118, 0, 1, 2, 3, 4, 5, 6, 7, 8, 9, 10, 11, 12, 13, 14, 15, 16, 17, 18, 19, 20, 21, 22, 23, 24, 25, 26, 27, 28, 29, 30, 31, 32, 33, 34, 35, 36, 37, 38, 39, 40, 41, 42, 43, 44, 45, 46, 119, 120, 47, 48, 49, 50, 51, 52, 53, 54, 55, 56, 57, 58, 59, 60, 61, 62, 63, 64, 65, 66, 67, 68, 69, 70, 71, 72, 73, 74, 75, 76, 77, 78, 79, 80, 81, 82, 83, 84, 85, 86, 87, 88, 89, 90, 91, 92, 93, 94, 95, 96, 97, 98, 99, 100, 101, 102, 103, 104, 105, 106, 107, 108, 109, 110, 111, 112, 113, 114, 115] rfl
    have hD : va_D (fun q : Nat => s.heap.size ≤ q) (LW cs h1 Q h2 q2 (vA F 13 (upd (upd (upd (F 13) 1 x25) 2 x26) 3 x27)) A (vA B 13 (vA (B 13) 0 y28)) D MF MA MD MB) := hD.sub [116, 117, 118, 0, 1, 2, 3, 4, 5, 6, 7, 8, 9, 10, 11, 12, 13, 14, 15, 16, 17, 18, 19, 20, 21, 22, 23, 24, 25, 26, 27, 28, 29, 30, 31, 32, 33, 34, 35, 36, 37, 38, 39, 40, 41, 42, 43, 44, 45, 46, 119, 120, 47, 48, 49, 50, 51, 52, 53, 54, 55, 56, 57, 58, 59, 60, 61, 62, 63, 64, 65, 66, 67, 68, 69, 70, 71, 72, 73, 74, 75, 76, 77, 78, 79, 80, 81, 82, 83, 84, 85, 86, 87, 88, 89, 90, 91, 92, 93, 94, 95, 96, 97, 98, 99, 100, 101, 102, 103, 104, 105, 106, 107, 108, 109, 110, 111, 112, 113, 114, 115] (by decide +kernel) rfl
    refine lv_aload_n hx hb dL_law_1996 rfl (lv_at hl 1 rfl) ?_
    refine lv_aload_n hx hb dL_law_1997 rfl (lv_at hl 3 rfl) ?_
    refine lv_iload_n hx hb dL_law_1998 rfl (lv_at hl 0 rfl) ?_
    refine lv_iconst (v := 1) hx hb dL_law_1999 (by decide) ?_
    refine lv_iadd hx hb dL_law_2000 ?_
    refine va_sld hx hb hXs hbl hbA hS (inK t1 (by omega) (by omega)) dL_law_2001 ?_
    refine W.eq (g2 := F0 m 2002 ls [.int 1, .ref h2, .int r24]) (by rw [← ea1]) ?_
    refine lv_aload_n hx hb dL_law_2002 rfl (lv_at hl 3 rfl) ?_
    refine lv_iload_n hx hb dL_law_2003 rfl (lv_at hl 0 rfl) ?_
    refine lv_iconst (v := 2) hx hb dL_law_2004 (by decide) ?_
    refine lv_iadd hx hb dL_law_2005 ?_
    refine va_sld hx hb hXs hbl hbA hS (inK t2 (by omega) (by omega)) dL_law_2006 ?_
    refine W.eq (g2 := F0 m 2007 ls [.int a2, .int 1, .ref h2, .int r24]) (by rw [← ea2]) ?_
    refine lv_aload_n hx hb dL_law_2007 rfl (lv_at hl 3 rfl) ?_
    refine lv_iload_n hx hb dL_law_2008 rfl (lv_at hl 0 rfl) ?_
    refine lv_iconst (v := 3) hx hb dL_law_2009 (by decide) ?_
    refine lv_iadd hx hb dL_law_2010 ?_
    refine va_sld hx hb hXs hbl hbA hS (inK t3 (by omega) (by omega)) dL_law_2011 ?_
    refine W.eq (g2 := F0 m 2012 ls [.int a3, .int a2, .int 1, .ref h2, .int r24]) (by rw [← ea3]) ?_
    refine behDi (wr := (XLW cs h1 Q (vA F 13 (upd (upd (upd (F 13) 1 x25) 2 x26) 3 x27)) A (vA B 13 (vA (B 13) 0 y28)) D)) (runVD (As := [.int 1, .int a2, .int a3]) (rest := [.int r24]) ⟨hx, hb, hml, hown, ht⟩ (sX11_row l G cs h2 q2 MF MA MD MB hM.1 1 a2 a3) okV_RL_268 ⟨(Nat.le_of_ble_eq_true rfl), (Nat.le_of_ble_eq_true rfl)⟩ hK hP hD [101, 102, 103, 104, 105, 106, 107, 108, 109, 110, 111, 112, 113, 114, 115, 116, 117, 118, 119, 120] rfl (by decide +kernel) rfl 101 rfl rfl hl.1 rfl (Nat.le_of_ble_eq_true rfl) dL_law_2012 ⟨(Nat.le_of_ble_eq_true rfl), (Nat.le_of_ble_eq_true rfl)⟩) hP hD hS (fun _ h => h) [101, 102, 103, 104, 105, 106, 107, 108, 109, 110, 111, 112, 113, 114, 115, 116, 117, 118, 119, 120] [0, 1, 2, 3, 4, 5, 6, 7, 8, 9, 10, 11, 12, 13, 14, 15, 16, 17, 18, 19, 20, 21, 22, 23, 24, 25, 26, 27, 28, 29, 30, 31, 32, 33, 34, 35, 36, 37, 38, 39, 40, 41, 42, 43, 44, 45, 46, 47, 48, 49, 50, 51, 52, 53, 54, 55, 56, 57, 58, 59, 60, 61, 62, 63, 64, 65, 66, 67, 68, 69, 70, 71, 72, 73, 74, 75, 76, 77, 78, 79, 80, 81, 82, 83, 84, 85, 86, 87, 88, 89, 90, 91, 92, 93, 94, 95, 96, 97, 98, 99, 100] rfl rfl (by decide +kernel) (by decide +kernel) (fun r9 u H locs hu hP hD hS => ?_)
    obtain ⟨g31, g32, y33⟩ := u
    obtain ⟨r30, rfl⟩ : ∃ z, z = r9 := ⟨_, rfl⟩
    obtain ⟨hg31, hg32, hr30⟩ := hu
    have hg31 : AI 31 g31 := hg31
    have hg32 : AI 32 g32 := hg32
    have kk34 : (1 : Int32).toInt = 1 := by decide
    have hr30 : RowM r30 (1 : Int32) a2 a3 (MA 31) g31 (MA 32) g32 := hr30
    have hP : va_P G vwCl (LW cs h1 Q h2 q2 (vA F 13 (upd (upd (upd (F 13) 1 x25) 2 x26) 3 x27)) A (vA B 13 (vA (B 13) 0 y28)) D MF (vA (vA MA 31 g31) 32 g32) MD (vA MB 33 y33)) H := hP
    have hD : va_D (fun q : Nat => s.heap.size ≤ q) (LW cs h1 Q h2 q2 (vA F 13 (upd (upd (upd (F 13) 1 x25) 2 x26) 3 x27)) A (vA B 13 (vA (B 13) 0 y28)) D MF (vA (vA MA 31 g31) 32 g32) MD (vA MB 33 y33)) := hD
    have zr30 := RowMe hr30
    have hr31 := RowM31 (k := 1) hr30 (by decide)
    have hr32 := RowM32 (k := 1) hr30 (by decide)
    refine lv_icmp_eq (tgt := 2156) hx hb dL_law_2015 (by decide) (fun _ => ?_) (fun c9 => False.elim (c9 (Int32.toInt_inj.mp (by have qr24 := hr24; have qr30 := zr30; omega))))
    exact kk (vA F 13 (upd (upd (upd (F 13) 1 x25) 2 x26) 3 x27)) A (vA B 13 (vA (B 13) 0 y28)) D MF (vA (vA MA 31 g31) 32 g32) MD (vA MB 33 y33) H locs ls ⟨hX.1, hX.2.1, hX.2.2.1, hX.2.2.2.1, hX.2.2.2.2.1, hX.2.2.2.2.2.1, hX.2.2.2.2.2.2.1, hX.2.2.2.2.2.2.2.1, hX.2.2.2.2.2.2.2.2.1, hX.2.2.2.2.2.2.2.2.2.1, hX.2.2.2.2.2.2.2.2.2.2.1, hX.2.2.2.2.2.2.2.2.2.2.2.1, hX.2.2.2.2.2.2.2.2.2.2.2.2.1, (IB_put (k := 3) (IB_put (k := 2) (IB_put (k := 1) hX.2.2.2.2.2.2.2.2.2.2.2.2.2.1 (hbx25)) (i32b _)) (hbx27)), hX.2.2.2.2.2.2.2.2.2.2.2.2.2.2.1, hX.2.2.2.2.2.2.2.2.2.2.2.2.2.2.2.1, hX.2.2.2.2.2.2.2.2.2.2.2.2.2.2.2.2.1, hX.2.2.2.2.2.2.2.2.2.2.2.2.2.2.2.2.2.1, hX.2.2.2.2.2.2.2.2.2.2.2.2.2.2.2.2.2.2.1, hX.2.2.2.2.2.2.2.2.2.2.2.2.2.2.2.2.2.2.2.1, hX.2.2.2.2.2.2.2.2.2.2.2.2.2.2.2.2.2.2.2.2.1, hX.2.2.2.2.2.2.2.2.2.2.2.2.2.2.2.2.2.2.2.2.2.1, hX.2.2.2.2.2.2.2.2.2.2.2.2.2.2.2.2.2.2.2.2.2.2.1, hX.2.2.2.2.2.2.2.2.2.2.2.2.2.2.2.2.2.2.2.2.2.2.2.1, hX.2.2.2.2.2.2.2.2.2.2.2.2.2.2.2.2.2.2.2.2.2.2.2.2.1, hX.2.2.2.2.2.2.2.2.2.2.2.2.2.2.2.2.2.2.2.2.2.2.2.2.2.1, hX.2.2.2.2.2.2.2.2.2.2.2.2.2.2.2.2.2.2.2.2.2.2.2.2.2.2⟩ ⟨(IM_arr (k := 32) (IM_arr (k := 31) hM.1 hg31) hg32), hM.2.1, hM.2.2⟩ ⟨hR.1, hR.2.1, hR.2.2.1, (by show SR (F 12 1) (F 12 2) (F 12 3) (g31 0) (g32 0); rw [hr31 0 (by decide), hr32 0 (by decide)]; exact hR.2.2.2.1), (RowSR (k := 1) hr30 hR.2.2.2.2.1 (by decide) (by decide) hr24), (by show SR (F 14 1) (F 14 2) (F 14 3) (g31 2) (g32 2); rw [hr31 2 (by decide), hr32 2 (by decide)]; exact hR.2.2.2.2.2.1), (by show SR (F 15 1) (F 15 2) (F 15 3) (g31 3) (g32 3); rw [hr31 3 (by decide), hr32 3 (by decide)]; exact hR.2.2.2.2.2.2)⟩ hP hD hS hl
  · refine behDi (wr := ((uX6 cs (Q 0 0) (fun _ => Q 0 1) (F 1) (A 1) (B 1) (D 1)) ++ ((uX9 cs (Q 0 1) (Q 2) (F 2) (A 2) (B 2) (D 2)) ++ ((uX3 cs (Q 0 2) (Q 3) (F 3) (A 3) (B 3) (D 3)) ++ ((uX8 cs (Q 0 3) (Q 4) (F 4) (A 4) (B 4) (D 4)) ++ ((uX3 cs (Q 4 0) (Q 5) (F 5) (A 5) (B 5) (D 5)) ++ ((uX5 cs (Q 0 6) (Q 6) (F 6) (A 6) (B 6) (D 6)) ++ ((uX5 cs (Q 0 7) (Q 7) (F 7) (A 7) (B 7) (D 7)) ++ ((uX0 cs (Q 0 8) (Q 8) (F 8) (A 8) (B 8) (D 8)) ++ ((uX1 cs (Q 0 9) (Q 9) (F 9) (A 9) (B 9) (D 9)) ++ ((uX4 cs (Q 0 10) (Q 10) (F 10) (A 10) (B 10) (D 10)) ++ ((uX2 cs (Q 0 11) (Q 11) (F 11) (A 11) (B 11) (D 11)) ++ ((uX7 cs (Q 0 20) (Q 12) (F 12) (A 12) (B 12) (D 12)) ++ ((uX7 cs (Q 0 21) (Q 13) (F 13) (A 13) (B 13) (D 13)) ++ ((uX7 cs (Q 0 23) (Q 15) (F 15) (A 15) (B 15) (D 15)) ++ ((uX8 cs (Q 0 30) (Q 16) (F 16) (A 16) (B 16) (D 16)) ++ ((uX3 cs (Q 16 0) (Q 17) (F 17) (A 17) (B 17) (D 17)) ++ ((uX8 cs (Q 0 31) (Q 18) (F 18) (A 18) (B 18) (D 18)) ++ ((uX3 cs (Q 18 0) (Q 19) (F 19) (A 19) (B 19) (D 19)) ++ ((uX8 cs (Q 0 32) (Q 20) (F 20) (A 20) (B 20) (D 20)) ++ ((uX3 cs (Q 20 0) (Q 21) (F 21) (A 21) (B 21) (D 21)) ++ ((uX5 cs (Q 8 10) (Q 22) (F 22) (A 22) (B 22) (D 22)) ++ ((uX5 cs (Q 8 11) (Q 23) (F 23) (A 23) (B 23) (D 23)) ++ ((uX5 cs (Q 8 12) (Q 24) (F 24) (A 24) (B 24) (D 24)) ++ ((uX5 cs (Q 8 13) (Q 25) (F 25) (A 25) (B 25) (D 25)) ++ ((uX5 cs (Q 8 14) (Q 26) (F 26) (A 26) (B 26) (D 26)) ++ (mS cs h2 q2 MF MA MD MB))))))))))))))))))))))))))) (runVD (As := [.int 2, .int a2, .int a3]) (rest := []) ⟨hx, hb, hml, hown, ht⟩ (sX10_row_2 l G cs h1 (Q 0) (F 0) (A 0) (B 0) (D 0) hX.1 (Q 14) (F 14) (A 14) (B 14) (D 14) hX.2.2.2.2.2.2.2.2.2.2.2.2.2.2.1 a2 a3) okV_RL_265 ⟨(Nat.le_of_ble_eq_true rfl), (Nat.le_of_ble_eq_true rfl)⟩ hK hP hD [0, 1, 2, 52, 53] rfl (by decide +kernel) rfl 0 rfl rfl hl.1 rfl (Nat.le_of_ble_eq_true rfl) dL_law_1993 ⟨(Nat.le_of_ble_eq_true rfl), (Nat.le_of_ble_eq_true rfl)⟩) hP hD hS (fun _ h => h) [0, 1, 2, 52, 53] [3, 4, 5, 6, 7, 8, 9, 10, 11, 12, 13, 14, 15, 16, 17, 18, 19, 20, 21, 22, 23, 24, 25, 26, 27, 28, 29, 30, 31, 32, 33, 34, 35, 36, 37, 38, 39, 40, 41, 42, 43, 44, 45, 46, 47, 48, 49, 50, 51, 54, 55, 56, 57, 58, 59, 60, 61, 62, 63, 64, 65, 66, 67, 68, 69, 70, 71, 72, 73, 74, 75, 76, 77, 78, 79, 80, 81, 82, 83, 84, 85, 86, 87, 88, 89, 90, 91, 92, 93, 94, 95, 96, 97, 98, 99, 100, 101, 102, 103, 104, 105, 106, 107, 108, 109, 110, 111, 112, 113, 114, 115, 116, 117, 118, 119, 120] rfl rfl (by decide +kernel) (by decide +kernel) (fun r9 u H locs hu hP hD hS => ?_)
    obtain ⟨x36, x37, x38, y39⟩ := u
    obtain ⟨r35, rfl⟩ : ∃ z, z = r9 := ⟨_, rfl⟩
    obtain ⟨hbx36, hbx38, hr35⟩ := hu
    have hbx36 : (0 : Int) ≤ x36.toInt ∧ x36.toInt ≤ 1 := hbx36
    have hbx38 : (0 : Int) ≤ x38.toInt ∧ x38.toInt ≤ 60 := hbx38
    have kk40 : (2 : Int32).toInt = 2 := by decide
    have hr35 : (r35.toInt = -2 ∧ (a2.toInt < 0 ∨ 3 < a2.toInt ∨ 60 < a3.toInt) ∧ x36.toInt = (F 14 1).toInt ∧ x37.toInt = (F 14 2).toInt ∧ x38.toInt = (F 14 3).toInt) ∨ (r35.toInt = -3 ∧ 0 ≤ a2.toInt ∧ a2.toInt ≤ 3 ∧ a3.toInt < 0 ∧ x36.toInt = (F 14 1).toInt ∧ x37.toInt = (F 14 2).toInt ∧ x38.toInt = (F 14 3).toInt) ∨ (r35.toInt = 0 ∧ 0 ≤ a2.toInt ∧ a2.toInt ≤ 3 ∧ 0 ≤ a3.toInt ∧ a3.toInt ≤ 60 ∧ x36.toInt = 1 ∧ x37.toInt = a2.toInt ∧ x38.toInt = a3.toInt) := hr35
    have hP : va_P G vwCl (LW cs h1 Q h2 q2 (vA F 14 (upd (upd (upd (F 14) 1 x36) 2 x37) 3 x38)) A (vA B 14 (vA (B 14) 0 y39)) D MF MA MD MB) H := hP.sub [116, 117, 118, 0, 1, 2, 3, 4, 5, 6, 7, 8, 9, 10, 11, 12, 13, 14, 15, 16, 17, 18, 19, 20, 21, 22, 23, 24, 25, 26, 27, 28, 29, 30, 31, 32, 33, 34, 35, 36, 37, 38, 39, 40, 41, 42, 43, 44, 45, 46, 47, 48, 119, 120, 49, 50, 51, 52, 53, 54, 55, 56, 57, 58, 59, 60, 61, 62, 63, 64, 65, 66, 67, 68, 69, 70, 71, 72, 73, 74, 75, 76, 77, 78, 79, 80, 81, 82, 83, 84, 85, 86, 87, 88, 89, 90, 91, 92, 93, 94, 95, 96, 97, 98, 99, 100, 101, 102, 103, 104, 105, 106, 107, 108, 109, 110, 111, 112, 113, 114, 115] rfl
    have hD : va_D (fun q : Nat => s.heap.size ≤ q) (LW cs h1 Q h2 q2 (vA F 14 (upd (upd (upd (F 14) 1 x36) 2 x37) 3 x38)) A (vA B 14 (vA (B 14) 0 y39)) D MF MA MD MB) := hD.sub [116, 117, 118, 0, 1, 2, 3, 4, 5, 6, 7, 8, 9, 10, 11, 12, 13, 14, 15, 16, 17, 18, 19, 20, 21, 22, 23, 24, 25, 26, 27, 28, 29, 30, 31, 32, 33, 34, 35, 36, 37, 38, 39, 40, 41, 42, 43, 44, 45, 46, 47, 48, 119, 120, 49, 50, 51, 52, 53, 54, 55, 56, 57, 58, 59, 60, 61, 62, 63, 64, 65, 66, 67, 68, 69, 70, 71, 72, 73, 74, 75, 76, 77, 78, 79, 80, 81, 82, 83, 84, 85, 86, 87, 88, 89, 90, 91, 92, 93, 94, 95, 96, 97, 98, 99, 100, 101, 102, 103, 104, 105, 106, 107, 108, 109, 110, 111, 112, 113, 114, 115] (by decide +kernel) rfl
    refine lv_aload_n hx hb dL_law_1996 rfl (lv_at hl 1 rfl) ?_
    refine lv_aload_n hx hb dL_law_1997 rfl (lv_at hl 3 rfl) ?_
    refine lv_iload_n hx hb dL_law_1998 rfl (lv_at hl 0 rfl) ?_
    refine lv_iconst (v := 1) hx hb dL_law_1999 (by decide) ?_
    refine lv_iadd hx hb dL_law_2000 ?_
    refine va_sld hx hb hXs hbl hbA hS (inK t1 (by omega) (by omega)) dL_law_2001 ?_
    refine W.eq (g2 := F0 m 2002 ls [.int 2, .ref h2, .int r35]) (by rw [← ea1]) ?_
    refine lv_aload_n hx hb dL_law_2002 rfl (lv_at hl 3 rfl) ?_
    refine lv_iload_n hx hb dL_law_2003 rfl (lv_at hl 0 rfl) ?_
    refine lv_iconst (v := 2) hx hb dL_law_2004 (by decide) ?_
    refine lv_iadd hx hb dL_law_2005 ?_
    refine va_sld hx hb hXs hbl hbA hS (inK t2 (by omega) (by omega)) dL_law_2006 ?_
    refine W.eq (g2 := F0 m 2007 ls [.int a2, .int 2, .ref h2, .int r35]) (by rw [← ea2]) ?_
    refine lv_aload_n hx hb dL_law_2007 rfl (lv_at hl 3 rfl) ?_
    refine lv_iload_n hx hb dL_law_2008 rfl (lv_at hl 0 rfl) ?_
    refine lv_iconst (v := 3) hx hb dL_law_2009 (by decide) ?_
    refine lv_iadd hx hb dL_law_2010 ?_
    refine va_sld hx hb hXs hbl hbA hS (inK t3 (by omega) (by omega)) dL_law_2011 ?_
    refine W.eq (g2 := F0 m 2012 ls [.int a3, .int a2, .int 2, .ref h2, .int r35]) (by rw [← ea3]) ?_
    refine behDi (wr := (XLW cs h1 Q (vA F 14 (upd (upd (upd (F 14) 1 x36) 2 x37) 3 x38)) A (vA B 14 (vA (B 14) 0 y39)) D)) (runVD (As := [.int 2, .int a2, .int a3]) (rest := [.int r35]) ⟨hx, hb, hml, hown, ht⟩ (sX11_row l G cs h2 q2 MF MA MD MB hM.1 2 a2 a3) okV_RL_268 ⟨(Nat.le_of_ble_eq_true rfl), (Nat.le_of_ble_eq_true rfl)⟩ hK hP hD [101, 102, 103, 104, 105, 106, 107, 108, 109, 110, 111, 112, 113, 114, 115, 116, 117, 118, 119, 120] rfl (by decide +kernel) rfl 101 rfl rfl hl.1 rfl (Nat.le_of_ble_eq_true rfl) dL_law_2012 ⟨(Nat.le_of_ble_eq_true rfl), (Nat.le_of_ble_eq_true rfl)⟩) hP hD hS (fun _ h => h) [101, 102, 103, 104, 105, 106, 107, 108, 109, 110, 111, 112, 113, 114, 115, 116, 117, 118, 119, 120] [0, 1, 2, 3, 4, 5, 6, 7, 8, 9, 10, 11, 12, 13, 14, 15, 16, 17, 18, 19, 20, 21, 22, 23, 24, 25, 26, 27, 28, 29, 30, 31, 32, 33, 34, 35, 36, 37, 38, 39, 40, 41, 42, 43, 44, 45, 46, 47, 48, 49, 50, 51, 52, 53, 54, 55, 56, 57, 58, 59, 60, 61, 62, 63, 64, 65, 66, 67, 68, 69, 70, 71, 72, 73, 74, 75, 76, 77, 78, 79, 80, 81, 82, 83, 84, 85, 86, 87, 88, 89, 90, 91, 92, 93, 94, 95, 96, 97, 98, 99, 100] rfl rfl (by decide +kernel) (by decide +kernel) (fun r9 u H locs hu hP hD hS => ?_)
    obtain ⟨g42, g43, y44⟩ := u
    obtain ⟨r41, rfl⟩ : ∃ z, z = r9 := ⟨_, rfl⟩
    obtain ⟨hg42, hg43, hr41⟩ := hu
    have hg42 : AI 31 g42 := hg42
    have hg43 : AI 32 g43 := hg43
    have kk45 : (2 : Int32).toInt = 2 := by decide
    have hr41 : RowM r41 (2 : Int32) a2 a3 (MA 31) g42 (MA 32) g43 := hr41
    have hP : va_P G vwCl (LW cs h1 Q h2 q2 (vA F 14 (upd (upd (upd (F 14) 1 x36) 2 x37) 3 x38)) A (vA B 14 (vA (B 14) 0 y39)) D MF (vA (vA MA 31 g42) 32 g43) MD (vA MB 33 y44)) H := hP
    have hD : va_D (fun q : Nat => s.heap.size ≤ q) (LW cs h1 Q h2 q2 (vA F 14 (upd (upd (upd (F 14) 1 x36) 2 x37) 3 x38)) A (vA B 14 (vA (B 14) 0 y39)) D MF (vA (vA MA 31 g42) 32 g43) MD (vA MB 33 y44)) := hD
    have zr41 := RowMe hr41
    have hr31 := RowM31 (k := 2) hr41 (by decide)
    have hr32 := RowM32 (k := 2) hr41 (by decide)
    refine lv_icmp_eq (tgt := 2156) hx hb dL_law_2015 (by decide) (fun _ => ?_) (fun c9 => False.elim (c9 (Int32.toInt_inj.mp (by have qr35 := hr35; have qr41 := zr41; omega))))
    exact kk (vA F 14 (upd (upd (upd (F 14) 1 x36) 2 x37) 3 x38)) A (vA B 14 (vA (B 14) 0 y39)) D MF (vA (vA MA 31 g42) 32 g43) MD (vA MB 33 y44) H locs ls ⟨hX.1, hX.2.1, hX.2.2.1, hX.2.2.2.1, hX.2.2.2.2.1, hX.2.2.2.2.2.1, hX.2.2.2.2.2.2.1, hX.2.2.2.2.2.2.2.1, hX.2.2.2.2.2.2.2.2.1, hX.2.2.2.2.2.2.2.2.2.1, hX.2.2.2.2.2.2.2.2.2.2.1, hX.2.2.2.2.2.2.2.2.2.2.2.1, hX.2.2.2.2.2.2.2.2.2.2.2.2.1, hX.2.2.2.2.2.2.2.2.2.2.2.2.2.1, (IB_put (k := 3) (IB_put (k := 2) (IB_put (k := 1) hX.2.2.2.2.2.2.2.2.2.2.2.2.2.2.1 (hbx36)) (i32b _)) (hbx38)), hX.2.2.2.2.2.2.2.2.2.2.2.2.2.2.2.1, hX.2.2.2.2.2.2.2.2.2.2.2.2.2.2.2.2.1, hX.2.2.2.2.2.2.2.2.2.2.2.2.2.2.2.2.2.1, hX.2.2.2.2.2.2.2.2.2.2.2.2.2.2.2.2.2.2.1, hX.2.2.2.2.2.2.2.2.2.2.2.2.2.2.2.2.2.2.2.1, hX.2.2.2.2.2.2.2.2.2.2.2.2.2.2.2.2.2.2.2.2.1, hX.2.2.2.2.2.2.2.2.2.2.2.2.2.2.2.2.2.2.2.2.2.1, hX.2.2.2.2.2.2.2.2.2.2.2.2.2.2.2.2.2.2.2.2.2.2.1, hX.2.2.2.2.2.2.2.2.2.2.2.2.2.2.2.2.2.2.2.2.2.2.2.1, hX.2.2.2.2.2.2.2.2.2.2.2.2.2.2.2.2.2.2.2.2.2.2.2.2.1, hX.2.2.2.2.2.2.2.2.2.2.2.2.2.2.2.2.2.2.2.2.2.2.2.2.2.1, hX.2.2.2.2.2.2.2.2.2.2.2.2.2.2.2.2.2.2.2.2.2.2.2.2.2.2⟩ ⟨(IM_arr (k := 32) (IM_arr (k := 31) hM.1 hg42) hg43), hM.2.1, hM.2.2⟩ ⟨hR.1, hR.2.1, hR.2.2.1, (by show SR (F 12 1) (F 12 2) (F 12 3) (g42 0) (g43 0); rw [hr31 0 (by decide), hr32 0 (by decide)]; exact hR.2.2.2.1), (by show SR (F 13 1) (F 13 2) (F 13 3) (g42 1) (g43 1); rw [hr31 1 (by decide), hr32 1 (by decide)]; exact hR.2.2.2.2.1), (RowSR (k := 2) hr41 hR.2.2.2.2.2.1 (by decide) (by decide) hr35), (by show SR (F 15 1) (F 15 2) (F 15 3) (g42 3) (g43 3); rw [hr31 3 (by decide), hr32 3 (by decide)]; exact hR.2.2.2.2.2.2)⟩ hP hD hS hl
  · refine behDi (wr := ((uX6 cs (Q 0 0) (fun _ => Q 0 1) (F 1) (A 1) (B 1) (D 1)) ++ ((uX9 cs (Q 0 1) (Q 2) (F 2) (A 2) (B 2) (D 2)) ++ ((uX3 cs (Q 0 2) (Q 3) (F 3) (A 3) (B 3) (D 3)) ++ ((uX8 cs (Q 0 3) (Q 4) (F 4) (A 4) (B 4) (D 4)) ++ ((uX3 cs (Q 4 0) (Q 5) (F 5) (A 5) (B 5) (D 5)) ++ ((uX5 cs (Q 0 6) (Q 6) (F 6) (A 6) (B 6) (D 6)) ++ ((uX5 cs (Q 0 7) (Q 7) (F 7) (A 7) (B 7) (D 7)) ++ ((uX0 cs (Q 0 8) (Q 8) (F 8) (A 8) (B 8) (D 8)) ++ ((uX1 cs (Q 0 9) (Q 9) (F 9) (A 9) (B 9) (D 9)) ++ ((uX4 cs (Q 0 10) (Q 10) (F 10) (A 10) (B 10) (D 10)) ++ ((uX2 cs (Q 0 11) (Q 11) (F 11) (A 11) (B 11) (D 11)) ++ ((uX7 cs (Q 0 20) (Q 12) (F 12) (A 12) (B 12) (D 12)) ++ ((uX7 cs (Q 0 21) (Q 13) (F 13) (A 13) (B 13) (D 13)) ++ ((uX7 cs (Q 0 22) (Q 14) (F 14) (A 14) (B 14) (D 14)) ++ ((uX8 cs (Q 0 30) (Q 16) (F 16) (A 16) (B 16) (D 16)) ++ ((uX3 cs (Q 16 0) (Q 17) (F 17) (A 17) (B 17) (D 17)) ++ ((uX8 cs (Q 0 31) (Q 18) (F 18) (A 18) (B 18) (D 18)) ++ ((uX3 cs (Q 18 0) (Q 19) (F 19) (A 19) (B 19) (D 19)) ++ ((uX8 cs (Q 0 32) (Q 20) (F 20) (A 20) (B 20) (D 20)) ++ ((uX3 cs (Q 20 0) (Q 21) (F 21) (A 21) (B 21) (D 21)) ++ ((uX5 cs (Q 8 10) (Q 22) (F 22) (A 22) (B 22) (D 22)) ++ ((uX5 cs (Q 8 11) (Q 23) (F 23) (A 23) (B 23) (D 23)) ++ ((uX5 cs (Q 8 12) (Q 24) (F 24) (A 24) (B 24) (D 24)) ++ ((uX5 cs (Q 8 13) (Q 25) (F 25) (A 25) (B 25) (D 25)) ++ ((uX5 cs (Q 8 14) (Q 26) (F 26) (A 26) (B 26) (D 26)) ++ (mS cs h2 q2 MF MA MD MB))))))))))))))))))))))))))) (runVD (As := [.int 3, .int a2, .int a3]) (rest := []) ⟨hx, hb, hml, hown, ht⟩ (sX10_row_3 l G cs h1 (Q 0) (F 0) (A 0) (B 0) (D 0) hX.1 (Q 15) (F 15) (A 15) (B 15) (D 15) hX.2.2.2.2.2.2.2.2.2.2.2.2.2.2.2.1 a2 a3) okV_RL_265 ⟨(Nat.le_of_ble_eq_true rfl), (Nat.le_of_ble_eq_true rfl)⟩ hK hP hD [0, 1, 2, 54, 55] rfl (by decide +kernel) rfl 0 rfl rfl hl.1 rfl (Nat.le_of_ble_eq_true rfl) dL_law_1993 ⟨(Nat.le_of_ble_eq_true rfl), (Nat.le_of_ble_eq_true rfl)⟩) hP hD hS (fun _ h => h) [0, 1, 2, 54, 55] [3, 4, 5, 6, 7, 8, 9, 10, 11, 12, 13, 14, 15, 16, 17, 18, 19, 20, 21, 22, 23, 24, 25, 26, 27, 28, 29, 30, 31, 32, 33, 34, 35, 36, 37, 38, 39, 40, 41, 42, 43, 44, 45, 46, 47, 48, 49, 50, 51, 52, 53, 56, 57, 58, 59, 60, 61, 62, 63, 64, 65, 66, 67, 68, 69, 70, 71, 72, 73, 74, 75, 76, 77, 78, 79, 80, 81, 82, 83, 84, 85, 86, 87, 88, 89, 90, 91, 92, 93, 94, 95, 96, 97, 98, 99, 100, 101, 102, 103, 104, 105, 106, 107, 108, 109, 110, 111, 112, 113, 114, 115, 116, 117, 118, 119, 120] rfl rfl (by decide +kernel) (by decide +kernel) (fun r9 u H locs hu hP hD hS => ?_)
    obtain ⟨x47, x48, x49, y50⟩ := u
    obtain ⟨r46, rfl⟩ : ∃ z, z = r9 := ⟨_, rfl⟩
    obtain ⟨hbx47, hbx49, hr46⟩ := hu
    have hbx47 : (0 : Int) ≤ x47.toInt ∧ x47.toInt ≤ 1 := hbx47
    have hbx49 : (0 : Int) ≤ x49.toInt ∧ x49.toInt ≤ 60 := hbx49
    have kk51 : (3 : Int32).toInt = 3 := by decide
    have hr46 : (r46.toInt = -2 ∧ (a2.toInt < 0 ∨ 3 < a2.toInt ∨ 60 < a3.toInt) ∧ x47.toInt = (F 15 1).toInt ∧ x48.toInt = (F 15 2).toInt ∧ x49.toInt = (F 15 3).toInt) ∨ (r46.toInt = -3 ∧ 0 ≤ a2.toInt ∧ a2.toInt ≤ 3 ∧ a3.toInt < 0 ∧ x47.toInt = (F 15 1).toInt ∧ x48.toInt = (F 15 2).toInt ∧ x49.toInt = (F 15 3).toInt) ∨ (r46.toInt = 0 ∧ 0 ≤ a2.toInt ∧ a2.toInt ≤ 3 ∧ 0 ≤ a3.toInt ∧ a3.toInt ≤ 60 ∧ x47.toInt = 1 ∧ x48.toInt = a2.toInt ∧ x49.toInt = a3.toInt) := hr46
    have hP : va_P G vwCl (LW cs h1 Q h2 q2 (vA F 15 (upd (upd (upd (F 15) 1 x47) 2 x48) 3 x49)) A (vA B 15 (vA (B 15) 0 y50)) D MF MA MD MB) H := hP.sub [116, 117, 118, 0, 1, 2, 3, 4, 5, 6, 7, 8, 9, 10, 11, 12, 13, 14, 15, 16, 17, 18, 19, 20, 21, 22, 23, 24, 25, 26, 27, 28, 29, 30, 31, 32, 33, 34, 35, 36, 37, 38, 39, 40, 41, 42, 43, 44, 45, 46, 47, 48, 49, 50, 119, 120, 51, 52, 53, 54, 55, 56, 57, 58, 59, 60, 61, 62, 63, 64, 65, 66, 67, 68, 69, 70, 71, 72, 73, 74, 75, 76, 77, 78, 79, 80, 81, 82, 83, 84, 85, 86, 87, 88, 89, 90, 91, 92, 93, 94, 95, 96, 97, 98, 99, 100, 101, 102, 103, 104, 105, 106, 107, 108, 109, 110, 111, 112, 113, 114, 115] rfl
    have hD : va_D (fun q : Nat => s.heap.size ≤ q) (LW cs h1 Q h2 q2 (vA F 15 (upd (upd (upd (F 15) 1 x47) 2 x48) 3 x49)) A (vA B 15 (vA (B 15) 0 y50)) D MF MA MD MB) := hD.sub [116, 117, 118, 0, 1, 2, 3, 4, 5, 6, 7, 8, 9, 10, 11, 12, 13, 14, 15, 16, 17, 18, 19, 20, 21, 22, 23, 24, 25, 26, 27, 28, 29, 30, 31, 32, 33, 34, 35, 36, 37, 38, 39, 40, 41, 42, 43, 44, 45, 46, 47, 48, 49, 50, 119, 120, 51, 52, 53, 54, 55, 56, 57, 58, 59, 60, 61, 62, 63, 64, 65, 66, 67, 68, 69, 70, 71, 72, 73, 74, 75, 76, 77, 78, 79, 80, 81, 82, 83, 84, 85, 86, 87, 88, 89, 90, 91, 92, 93, 94, 95, 96, 97, 98, 99, 100, 101, 102, 103, 104, 105, 106, 107, 108, 109, 110, 111, 112, 113, 114, 115] (by decide +kernel) rfl
    refine lv_aload_n hx hb dL_law_1996 rfl (lv_at hl 1 rfl) ?_
    refine lv_aload_n hx hb dL_law_1997 rfl (lv_at hl 3 rfl) ?_
    refine lv_iload_n hx hb dL_law_1998 rfl (lv_at hl 0 rfl) ?_
    refine lv_iconst (v := 1) hx hb dL_law_1999 (by decide) ?_
    refine lv_iadd hx hb dL_law_2000 ?_
    refine va_sld hx hb hXs hbl hbA hS (inK t1 (by omega) (by omega)) dL_law_2001 ?_
    refine W.eq (g2 := F0 m 2002 ls [.int 3, .ref h2, .int r46]) (by rw [← ea1]) ?_
    refine lv_aload_n hx hb dL_law_2002 rfl (lv_at hl 3 rfl) ?_
    refine lv_iload_n hx hb dL_law_2003 rfl (lv_at hl 0 rfl) ?_
    refine lv_iconst (v := 2) hx hb dL_law_2004 (by decide) ?_
    refine lv_iadd hx hb dL_law_2005 ?_
    refine va_sld hx hb hXs hbl hbA hS (inK t2 (by omega) (by omega)) dL_law_2006 ?_
    refine W.eq (g2 := F0 m 2007 ls [.int a2, .int 3, .ref h2, .int r46]) (by rw [← ea2]) ?_
    refine lv_aload_n hx hb dL_law_2007 rfl (lv_at hl 3 rfl) ?_
    refine lv_iload_n hx hb dL_law_2008 rfl (lv_at hl 0 rfl) ?_
    refine lv_iconst (v := 3) hx hb dL_law_2009 (by decide) ?_
    refine lv_iadd hx hb dL_law_2010 ?_
    refine va_sld hx hb hXs hbl hbA hS (inK t3 (by omega) (by omega)) dL_law_2011 ?_
    refine W.eq (g2 := F0 m 2012 ls [.int a3, .int a2, .int 3, .ref h2, .int r46]) (by rw [← ea3]) ?_
    refine behDi (wr := (XLW cs h1 Q (vA F 15 (upd (upd (upd (F 15) 1 x47) 2 x48) 3 x49)) A (vA B 15 (vA (B 15) 0 y50)) D)) (runVD (As := [.int 3, .int a2, .int a3]) (rest := [.int r46]) ⟨hx, hb, hml, hown, ht⟩ (sX11_row l G cs h2 q2 MF MA MD MB hM.1 3 a2 a3) okV_RL_268 ⟨(Nat.le_of_ble_eq_true rfl), (Nat.le_of_ble_eq_true rfl)⟩ hK hP hD [101, 102, 103, 104, 105, 106, 107, 108, 109, 110, 111, 112, 113, 114, 115, 116, 117, 118, 119, 120] rfl (by decide +kernel) rfl 101 rfl rfl hl.1 rfl (Nat.le_of_ble_eq_true rfl) dL_law_2012 ⟨(Nat.le_of_ble_eq_true rfl), (Nat.le_of_ble_eq_true rfl)⟩) hP hD hS (fun _ h => h) [101, 102, 103, 104, 105, 106, 107, 108, 109, 110, 111, 112, 113, 114, 115, 116, 117, 118, 119, 120] [0, 1, 2, 3, 4, 5, 6, 7, 8, 9, 10, 11, 12, 13, 14, 15, 16, 17, 18, 19, 20, 21, 22, 23, 24, 25, 26, 27, 28, 29, 30, 31, 32, 33, 34, 35, 36, 37, 38, 39, 40, 41, 42, 43, 44, 45, 46, 47, 48, 49, 50, 51, 52, 53, 54, 55, 56, 57, 58, 59, 60, 61, 62, 63, 64, 65, 66, 67, 68, 69, 70, 71, 72, 73, 74, 75, 76, 77, 78, 79, 80, 81, 82, 83, 84, 85, 86, 87, 88, 89, 90, 91, 92, 93, 94, 95, 96, 97, 98, 99, 100] rfl rfl (by decide +kernel) (by decide +kernel) (fun r9 u H locs hu hP hD hS => ?_)
    obtain ⟨g53, g54, y55⟩ := u
    obtain ⟨r52, rfl⟩ : ∃ z, z = r9 := ⟨_, rfl⟩
    obtain ⟨hg53, hg54, hr52⟩ := hu
    have hg53 : AI 31 g53 := hg53
    have hg54 : AI 32 g54 := hg54
    have kk56 : (3 : Int32).toInt = 3 := by decide
    have hr52 : RowM r52 (3 : Int32) a2 a3 (MA 31) g53 (MA 32) g54 := hr52
    have hP : va_P G vwCl (LW cs h1 Q h2 q2 (vA F 15 (upd (upd (upd (F 15) 1 x47) 2 x48) 3 x49)) A (vA B 15 (vA (B 15) 0 y50)) D MF (vA (vA MA 31 g53) 32 g54) MD (vA MB 33 y55)) H := hP
    have hD : va_D (fun q : Nat => s.heap.size ≤ q) (LW cs h1 Q h2 q2 (vA F 15 (upd (upd (upd (F 15) 1 x47) 2 x48) 3 x49)) A (vA B 15 (vA (B 15) 0 y50)) D MF (vA (vA MA 31 g53) 32 g54) MD (vA MB 33 y55)) := hD
    have zr52 := RowMe hr52
    have hr31 := RowM31 (k := 3) hr52 (by decide)
    have hr32 := RowM32 (k := 3) hr52 (by decide)
    refine lv_icmp_eq (tgt := 2156) hx hb dL_law_2015 (by decide) (fun _ => ?_) (fun c9 => False.elim (c9 (Int32.toInt_inj.mp (by have qr46 := hr46; have qr52 := zr52; omega))))
    exact kk (vA F 15 (upd (upd (upd (F 15) 1 x47) 2 x48) 3 x49)) A (vA B 15 (vA (B 15) 0 y50)) D MF (vA (vA MA 31 g53) 32 g54) MD (vA MB 33 y55) H locs ls ⟨hX.1, hX.2.1, hX.2.2.1, hX.2.2.2.1, hX.2.2.2.2.1, hX.2.2.2.2.2.1, hX.2.2.2.2.2.2.1, hX.2.2.2.2.2.2.2.1, hX.2.2.2.2.2.2.2.2.1, hX.2.2.2.2.2.2.2.2.2.1, hX.2.2.2.2.2.2.2.2.2.2.1, hX.2.2.2.2.2.2.2.2.2.2.2.1, hX.2.2.2.2.2.2.2.2.2.2.2.2.1, hX.2.2.2.2.2.2.2.2.2.2.2.2.2.1, hX.2.2.2.2.2.2.2.2.2.2.2.2.2.2.1, (IB_put (k := 3) (IB_put (k := 2) (IB_put (k := 1) hX.2.2.2.2.2.2.2.2.2.2.2.2.2.2.2.1 (hbx47)) (i32b _)) (hbx49)), hX.2.2.2.2.2.2.2.2.2.2.2.2.2.2.2.2.1, hX.2.2.2.2.2.2.2.2.2.2.2.2.2.2.2.2.2.1, hX.2.2.2.2.2.2.2.2.2.2.2.2.2.2.2.2.2.2.1, hX.2.2.2.2.2.2.2.2.2.2.2.2.2.2.2.2.2.2.2.1, hX.2.2.2.2.2.2.2.2.2.2.2.2.2.2.2.2.2.2.2.2.1, hX.2.2.2.2.2.2.2.2.2.2.2.2.2.2.2.2.2.2.2.2.2.1, hX.2.2.2.2.2.2.2.2.2.2.2.2.2.2.2.2.2.2.2.2.2.2.1, hX.2.2.2.2.2.2.2.2.2.2.2.2.2.2.2.2.2.2.2.2.2.2.2.1, hX.2.2.2.2.2.2.2.2.2.2.2.2.2.2.2.2.2.2.2.2.2.2.2.2.1, hX.2.2.2.2.2.2.2.2.2.2.2.2.2.2.2.2.2.2.2.2.2.2.2.2.2.1, hX.2.2.2.2.2.2.2.2.2.2.2.2.2.2.2.2.2.2.2.2.2.2.2.2.2.2⟩ ⟨(IM_arr (k := 32) (IM_arr (k := 31) hM.1 hg53) hg54), hM.2.1, hM.2.2⟩ ⟨hR.1, hR.2.1, hR.2.2.1, (by show SR (F 12 1) (F 12 2) (F 12 3) (g53 0) (g54 0); rw [hr31 0 (by decide), hr32 0 (by decide)]; exact hR.2.2.2.1), (by show SR (F 13 1) (F 13 2) (F 13 3) (g53 1) (g54 1); rw [hr31 1 (by decide), hr32 1 (by decide)]; exact hR.2.2.2.2.1), (by show SR (F 14 1) (F 14 2) (F 14 3) (g53 2) (g54 2); rw [hr31 2 (by decide), hr32 2 (by decide)]; exact hR.2.2.2.2.2.1), (RowSR (k := 3) hr52 hR.2.2.2.2.2.2 (by decide) (by decide) hr46)⟩ hP hD hS hl

set_option maxRecDepth 100000 in
set_option maxHeartbeats 16000000 in
theorem law_62 {p : Program} {l : Launch} {e : Env} {s : State} {m : MethodId} {below : List Frame} {meth : Method} {c : Code} {b L : Nat} {xs : Nat → Int32} {G : va_G} {cs : Nat → ClassId} {h1 : Nat} {Q : Nat → Nat → Nat} {h2 : Nat} {q2 : Nat → Nat} {sd : Nat → Nat × Nat} {i : Int32} : LCase p l e s m below meth c b G cs h1 Q h2 q2 i L xs sd 62 := by
  intro C0 hL hK hQ hQM hi0 hi6 kk F A B D MF MA MD MB H locs ls hX hM hR hP hD hS hl
  obtain ⟨hx, hb, hr, hml, hown, hts, hXs, hbl, hlocks, hgv⟩ := id C0
  have hown : s.vm.findClass RL = some m.cls := hown
  have ht : ∀ w ∈ tb, w.before #[Value.ref b] s = true := fun w h => hts w (List.mem_filter.mp h).1
  have hbA : ¬ (fun q : Nat => s.heap.size ≤ q) b := Nat.not_le.mpr hbl
  have t1 : (i + 1).toInt = i.toInt + 1 := addT rfl (by decide) (by omega)
  obtain ⟨a1, ea1⟩ : ∃ z : Int32, z = xs (i + 1).toNatClampNeg := ⟨_, rfl⟩
  have t2 : (i + 2).toInt = i.toInt + 2 := addT rfl (by decide) (by omega)
  obtain ⟨a2, ea2⟩ : ∃ z : Int32, z = xs (i + 2).toNatClampNeg := ⟨_, rfl⟩
  have t3 : (i + 3).toInt = i.toInt + 3 := addT rfl (by decide) (by omega)
  obtain ⟨a3, ea3⟩ : ∃ z : Int32, z = xs (i + 3).toNatClampNeg := ⟨_, rfl⟩
  have t4 : (i + 4).toInt = i.toInt + 4 := addT rfl (by decide) (by omega)
  obtain ⟨a4, ea4⟩ : ∃ z : Int32, z = xs (i + 4).toNatClampNeg := ⟨_, rfl⟩
  refine lv_tableIn (off := 1987) (tgt := 2020) hx hb dL_law_33 (by decide) (by decide) (by decide) (by decide) ?_
  refine lv_aload_n hx hb dL_law_2020 rfl (lv_at hl 2 rfl) ?_
  refine lv_aload_n hx hb dL_law_2021 rfl (lv_at hl 3 rfl) ?_
  refine lv_iload_n hx hb dL_law_2022 rfl (lv_at hl 0 rfl) ?_
  refine lv_iconst (v := 1) hx hb dL_law_2023 (by decide) ?_
  refine lv_iadd hx hb dL_law_2024 ?_
  refine va_sld hx hb hXs hbl hbA hS (inK t1 (by omega) (by omega)) dL_law_2025 ?_
  refine W.eq (g2 := F0 m 2026 ls [.int a1, .ref h1]) (by rw [← ea1]) ?_
  refine lv_aload_n hx hb dL_law_2026 rfl (lv_at hl 3 rfl) ?_
  refine lv_iload_n hx hb dL_law_2027 rfl (lv_at hl 0 rfl) ?_
  refine lv_iconst (v := 2) hx hb dL_law_2028 (by decide) ?_
  refine lv_iadd hx hb dL_law_2029 ?_
  refine va_sld hx hb hXs hbl hbA hS (inK t2 (by omega) (by omega)) dL_law_2030 ?_
  refine W.eq (g2 := F0 m 2031 ls [.int a2, .int a1, .ref h1]) (by rw [← ea2]) ?_
  refine lv_aload_n hx hb dL_law_2031 rfl (lv_at hl 3 rfl) ?_
  refine lv_iload_n hx hb dL_law_2032 rfl (lv_at hl 0 rfl) ?_
  refine lv_iconst (v := 3) hx hb dL_law_2033 (by decide) ?_
  refine lv_iadd hx hb dL_law_2034 ?_
  refine va_sld hx hb hXs hbl hbA hS (inK t3 (by omega) (by omega)) dL_law_2035 ?_
  refine W.eq (g2 := F0 m 2036 ls [.int a3, .int a2, .int a1, .ref h1]) (by rw [← ea3]) ?_
  refine lv_i2l hx hb dL_law_2036 rfl ?_
  refine lv_topl (fun w1 ew1 => ?_)
  refine lv_bipush (v := 32) hx hb dL_law_2037 (by decide) ?_
  refine lv_lshl hx hb dL_law_2039 rfl ?_
  refine lv_topl (fun w2 ew2 => ?_)
  refine lv_aload_n hx hb dL_law_2040 rfl (lv_at hl 3 rfl) ?_
  refine lv_iload_n hx hb dL_law_2041 rfl (lv_at hl 0 rfl) ?_
  refine lv_iconst (v := 4) hx hb dL_law_2042 (by decide) ?_
  refine lv_iadd hx hb dL_law_2043 ?_
  refine va_sld hx hb hXs hbl hbA hS (inK t4 (by omega) (by omega)) dL_law_2044 ?_
  refine W.eq (g2 := F0 m 2045 ls [.int a4, .long w2, .int a2, .int a1, .ref h1]) (by rw [← ea4]) ?_
  refine lv_i2l hx hb dL_law_2045 rfl ?_
  refine lv_topl (fun w3 ew3 => ?_)
  refine lv_ldc2 hx hb hown (ht _ kl_RL_269) dL_law_2046 ?_
  refine lv_land hx hb dL_law_2049 ?_
  refine lv_topl (fun w4 ew4 => ?_)
  refine lv_lor hx hb dL_law_2050 ?_
  refine lv_topl (fun w5 ew5 => ?_)
  rcases csN4 a1 with hN | hN | rfl | rfl | rfl | rfl
  · have bb6 := i32b a1
    refine behR (runVP (As := [.int a1, .int a2, .long w5]) (rest := []) ⟨hx, hb, hml, hown, ht⟩ (sX10_write_lo l G cs h1 (Q 0) (F 0) (A 0) (B 0) (D 0) hX.1 a1 a2 w5 (by omega)) okV_RL_271 ⟨(Nat.le_of_ble_eq_true rfl), (Nat.le_of_ble_eq_true rfl)⟩ hK hP [0, 1, 2] rfl 0 rfl rfl hl.1 rfl (Nat.le_of_ble_eq_true rfl) dL_law_2051 ⟨(Nat.le_of_ble_eq_true rfl), (Nat.le_of_ble_eq_true rfl)⟩) hP hS (fun _ h => h) (fun r7 H locs hr7 hP hS => ?_)
    have hr7 : r7.toInt = -2 := hr7
    refine lv_pop hx hb dL_law_2054 rfl ?_
    refine lv_aload_n hx hb dL_law_2055 rfl (lv_at hl 1 rfl) ?_
    refine lv_aload_n hx hb dL_law_2056 rfl (lv_at hl 3 rfl) ?_
    refine lv_iload_n hx hb dL_law_2057 rfl (lv_at hl 0 rfl) ?_
    refine lv_iconst (v := 1) hx hb dL_law_2058 (by decide) ?_
    refine lv_iadd hx hb dL_law_2059 ?_
    refine va_sld hx hb hXs hbl hbA hS (inK t1 (by omega) (by omega)) dL_law_2060 ?_
    refine W.eq (g2 := F0 m 2061 ls [.int a1, .ref h2]) (by rw [← ea1]) ?_
    refine lv_aload_n hx hb dL_law_2061 rfl (lv_at hl 3 rfl) ?_
    refine lv_iload_n hx hb dL_law_2062 rfl (lv_at hl 0 rfl) ?_
    refine lv_iconst (v := 2) hx hb dL_law_2063 (by decide) ?_
    refine lv_iadd hx hb dL_law_2064 ?_
    refine va_sld hx hb hXs hbl hbA hS (inK t2 (by omega) (by omega)) dL_law_2065 ?_
    refine W.eq (g2 := F0 m 2066 ls [.int a2, .int a1, .ref h2]) (by rw [← ea2]) ?_
    refine lv_aload_n hx hb dL_law_2066 rfl (lv_at hl 3 rfl) ?_
    refine lv_iload_n hx hb dL_law_2067 rfl (lv_at hl 0 rfl) ?_
    refine lv_iconst (v := 3) hx hb dL_law_2068 (by decide) ?_
    refine lv_iadd hx hb dL_law_2069 ?_
    refine va_sld hx hb hXs hbl hbA hS (inK t3 (by omega) (by omega)) dL_law_2070 ?_
    refine W.eq (g2 := F0 m 2071 ls [.int a3, .int a2, .int a1, .ref h2]) (by rw [← ea3]) ?_
    refine lv_i2l hx hb dL_law_2071 rfl ?_
    refine lv_topl (fun w8 ew8 => ?_)
    refine lv_bipush (v := 32) hx hb dL_law_2072 (by decide) ?_
    refine lv_lshl hx hb dL_law_2074 rfl ?_
    refine lv_topl (fun w9 ew9 => ?_)
    refine lv_aload_n hx hb dL_law_2075 rfl (lv_at hl 3 rfl) ?_
    refine lv_iload_n hx hb dL_law_2076 rfl (lv_at hl 0 rfl) ?_
    refine lv_iconst (v := 4) hx hb dL_law_2077 (by decide) ?_
    refine lv_iadd hx hb dL_law_2078 ?_
    refine va_sld hx hb hXs hbl hbA hS (inK t4 (by omega) (by omega)) dL_law_2079 ?_
    refine W.eq (g2 := F0 m 2080 ls [.int a4, .long w9, .int a2, .int a1, .ref h2]) (by rw [← ea4]) ?_
    refine lv_i2l hx hb dL_law_2080 rfl ?_
    refine lv_topl (fun w10 ew10 => ?_)
    refine lv_ldc2 hx hb hown (ht _ kl_RL_269) dL_law_2081 ?_
    refine lv_land hx hb dL_law_2084 ?_
    refine lv_topl (fun w11 ew11 => ?_)
    refine lv_lor hx hb dL_law_2085 ?_
    refine lv_topl (fun w12 ew12 => ?_)
    refine behDi (wr := (XLW cs h1 Q F A B D)) (runVD (As := [.int a1, .int a2, .long w12]) (rest := []) ⟨hx, hb, hml, hown, ht⟩ (sX11_write l G cs h2 q2 MF MA MD MB hM.1 a1 a2 w12) okV_RL_275 ⟨(Nat.le_of_ble_eq_true rfl), (Nat.le_of_ble_eq_true rfl)⟩ hK hP hD [101, 102, 103, 104, 105, 106, 107, 108, 109, 110, 111, 112, 113, 114, 115, 116, 117, 118, 119, 120] rfl (by decide +kernel) rfl 101 rfl rfl hl.1 rfl (Nat.le_of_ble_eq_true rfl) dL_law_2086 ⟨(Nat.le_of_ble_eq_true rfl), (Nat.le_of_ble_eq_true rfl)⟩) hP hD hS (fun _ h => h) [101, 102, 103, 104, 105, 106, 107, 108, 109, 110, 111, 112, 113, 114, 115, 116, 117, 118, 119, 120] [0, 1, 2, 3, 4, 5, 6, 7, 8, 9, 10, 11, 12, 13, 14, 15, 16, 17, 18, 19, 20, 21, 22, 23, 24, 25, 26, 27, 28, 29, 30, 31, 32, 33, 34, 35, 36, 37, 38, 39, 40, 41, 42, 43, 44, 45, 46, 47, 48, 49, 50, 51, 52, 53, 54, 55, 56, 57, 58, 59, 60, 61, 62, 63, 64, 65, 66, 67, 68, 69, 70, 71, 72, 73, 74, 75, 76, 77, 78, 79, 80, 81, 82, 83, 84, 85, 86, 87, 88, 89, 90, 91, 92, 93, 94, 95, 96, 97, 98, 99, 100] rfl rfl (by decide +kernel) (by decide +kernel) (fun r9 u H locs hu hP hD hS => ?_)
    obtain ⟨y14, rfl⟩ : ∃ z, z = u := ⟨_, rfl⟩
    obtain ⟨r13, rfl⟩ : ∃ z, z = r9 := ⟨_, rfl⟩
    have hr13 := hu
    have hr13 : (r13.toInt = -2 ∧ (a1.toInt < 0 ∨ 3 < a1.toInt)) ∨ ((0 ≤ a1.toInt ∧ a1.toInt ≤ 3) ∧ ((MA 31) a1.toNatClampNeg).toInt = -1 ∧ r13.toInt = -6) ∨ ((0 ≤ a1.toInt ∧ a1.toInt ≤ 3) ∧ ¬ ((MA 31) a1.toNatClampNeg).toInt = -1 ∧ (a2.toInt < 0 ∨ ((MA 31) a1.toNatClampNeg).toInt ≤ a2.toInt) ∧ r13.toInt = -7) ∨ ((0 ≤ a1.toInt ∧ a1.toInt ≤ 3) ∧ ¬ ((MA 31) a1.toNatClampNeg).toInt = -1 ∧ 0 ≤ a2.toInt ∧ a2.toInt < ((MA 31) a1.toNatClampNeg).toInt ∧ r13.toInt = 0) := hr13
    have hP : va_P G vwCl (LW cs h1 Q h2 q2 F A B D MF MA MD (vA MB 33 y14)) H := hP
    have hD : va_D (fun q : Nat => s.heap.size ≤ q) (LW cs h1 Q h2 q2 F A B D MF MA MD (vA MB 33 y14)) := hD
    refine lv_pop hx hb dL_law_2089 rfl ?_
    refine lv_goto (tgt := 2156) hx hb dL_law_2090 (by decide) ?_
    exact kk F A B D MF MA MD (vA MB 33 y14) H locs ls ⟨hX.1, hX.2.1, hX.2.2.1, hX.2.2.2.1, hX.2.2.2.2.1, hX.2.2.2.2.2.1, hX.2.2.2.2.2.2.1, hX.2.2.2.2.2.2.2.1, hX.2.2.2.2.2.2.2.2.1, hX.2.2.2.2.2.2.2.2.2.1, hX.2.2.2.2.2.2.2.2.2.2.1, hX.2.2.2.2.2.2.2.2.2.2.2.1, hX.2.2.2.2.2.2.2.2.2.2.2.2.1, hX.2.2.2.2.2.2.2.2.2.2.2.2.2.1, hX.2.2.2.2.2.2.2.2.2.2.2.2.2.2.1, hX.2.2.2.2.2.2.2.2.2.2.2.2.2.2.2.1, hX.2.2.2.2.2.2.2.2.2.2.2.2.2.2.2.2.1, hX.2.2.2.2.2.2.2.2.2.2.2.2.2.2.2.2.2.1, hX.2.2.2.2.2.2.2.2.2.2.2.2.2.2.2.2.2.2.1, hX.2.2.2.2.2.2.2.2.2.2.2.2.2.2.2.2.2.2.2.1, hX.2.2.2.2.2.2.2.2.2.2.2.2.2.2.2.2.2.2.2.2.1, hX.2.2.2.2.2.2.2.2.2.2.2.2.2.2.2.2.2.2.2.2.2.1, hX.2.2.2.2.2.2.2.2.2.2.2.2.2.2.2.2.2.2.2.2.2.2.1, hX.2.2.2.2.2.2.2.2.2.2.2.2.2.2.2.2.2.2.2.2.2.2.2.1, hX.2.2.2.2.2.2.2.2.2.2.2.2.2.2.2.2.2.2.2.2.2.2.2.2.1, hX.2.2.2.2.2.2.2.2.2.2.2.2.2.2.2.2.2.2.2.2.2.2.2.2.2.1, hX.2.2.2.2.2.2.2.2.2.2.2.2.2.2.2.2.2.2.2.2.2.2.2.2.2.2⟩ ⟨hM.1, hM.2.1, hM.2.2⟩ hR hP hD hS hl
  · have bb15 := i32b a1
    refine behR (runVP (As := [.int a1, .int a2, .long w5]) (rest := []) ⟨hx, hb, hml, hown, ht⟩ (sX10_write_hi l G cs h1 (Q 0) (F 0) (A 0) (B 0) (D 0) hX.1 a1 a2 w5 (by omega)) okV_RL_271 ⟨(Nat.le_of_ble_eq_true rfl), (Nat.le_of_ble_eq_true rfl)⟩ hK hP [0, 1, 2] rfl 0 rfl rfl hl.1 rfl (Nat.le_of_ble_eq_true rfl) dL_law_2051 ⟨(Nat.le_of_ble_eq_true rfl), (Nat.le_of_ble_eq_true rfl)⟩) hP hS (fun _ h => h) (fun r16 H locs hr16 hP hS => ?_)
    have hr16 : r16.toInt = -2 := hr16
    refine lv_pop hx hb dL_law_2054 rfl ?_
    refine lv_aload_n hx hb dL_law_2055 rfl (lv_at hl 1 rfl) ?_
    refine lv_aload_n hx hb dL_law_2056 rfl (lv_at hl 3 rfl) ?_
    refine lv_iload_n hx hb dL_law_2057 rfl (lv_at hl 0 rfl) ?_
    refine lv_iconst (v := 1) hx hb dL_law_2058 (by decide) ?_
    refine lv_iadd hx hb dL_law_2059 ?_
    refine va_sld hx hb hXs hbl hbA hS (inK t1 (by omega) (by omega)) dL_law_2060 ?_
    refine W.eq (g2 := F0 m 2061 ls [.int a1, .ref h2]) (by rw [← ea1]) ?_
    refine lv_aload_n hx hb dL_law_2061 rfl (lv_at hl 3 rfl) ?_
    refine lv_iload_n hx hb dL_law_2062 rfl (lv_at hl 0 rfl) ?_
    refine lv_iconst (v := 2) hx hb dL_law_2063 (by decide) ?_
    refine lv_iadd hx hb dL_law_2064 ?_
    refine va_sld hx hb hXs hbl hbA hS (inK t2 (by omega) (by omega)) dL_law_2065 ?_
    refine W.eq (g2 := F0 m 2066 ls [.int a2, .int a1, .ref h2]) (by rw [← ea2]) ?_
    refine lv_aload_n hx hb dL_law_2066 rfl (lv_at hl 3 rfl) ?_
    refine lv_iload_n hx hb dL_law_2067 rfl (lv_at hl 0 rfl) ?_
    refine lv_iconst (v := 3) hx hb dL_law_2068 (by decide) ?_
    refine lv_iadd hx hb dL_law_2069 ?_
    refine va_sld hx hb hXs hbl hbA hS (inK t3 (by omega) (by omega)) dL_law_2070 ?_
    refine W.eq (g2 := F0 m 2071 ls [.int a3, .int a2, .int a1, .ref h2]) (by rw [← ea3]) ?_
    refine lv_i2l hx hb dL_law_2071 rfl ?_
    refine lv_topl (fun w17 ew17 => ?_)
    refine lv_bipush (v := 32) hx hb dL_law_2072 (by decide) ?_
    refine lv_lshl hx hb dL_law_2074 rfl ?_
    refine lv_topl (fun w18 ew18 => ?_)
    refine lv_aload_n hx hb dL_law_2075 rfl (lv_at hl 3 rfl) ?_
    refine lv_iload_n hx hb dL_law_2076 rfl (lv_at hl 0 rfl) ?_
    refine lv_iconst (v := 4) hx hb dL_law_2077 (by decide) ?_
    refine lv_iadd hx hb dL_law_2078 ?_
    refine va_sld hx hb hXs hbl hbA hS (inK t4 (by omega) (by omega)) dL_law_2079 ?_
    refine W.eq (g2 := F0 m 2080 ls [.int a4, .long w18, .int a2, .int a1, .ref h2]) (by rw [← ea4]) ?_
    refine lv_i2l hx hb dL_law_2080 rfl ?_
    refine lv_topl (fun w19 ew19 => ?_)
    refine lv_ldc2 hx hb hown (ht _ kl_RL_269) dL_law_2081 ?_
    refine lv_land hx hb dL_law_2084 ?_
    refine lv_topl (fun w20 ew20 => ?_)
    refine lv_lor hx hb dL_law_2085 ?_
    refine lv_topl (fun w21 ew21 => ?_)
    refine behDi (wr := (XLW cs h1 Q F A B D)) (runVD (As := [.int a1, .int a2, .long w21]) (rest := []) ⟨hx, hb, hml, hown, ht⟩ (sX11_write l G cs h2 q2 MF MA MD MB hM.1 a1 a2 w21) okV_RL_275 ⟨(Nat.le_of_ble_eq_true rfl), (Nat.le_of_ble_eq_true rfl)⟩ hK hP hD [101, 102, 103, 104, 105, 106, 107, 108, 109, 110, 111, 112, 113, 114, 115, 116, 117, 118, 119, 120] rfl (by decide +kernel) rfl 101 rfl rfl hl.1 rfl (Nat.le_of_ble_eq_true rfl) dL_law_2086 ⟨(Nat.le_of_ble_eq_true rfl), (Nat.le_of_ble_eq_true rfl)⟩) hP hD hS (fun _ h => h) [101, 102, 103, 104, 105, 106, 107, 108, 109, 110, 111, 112, 113, 114, 115, 116, 117, 118, 119, 120] [0, 1, 2, 3, 4, 5, 6, 7, 8, 9, 10, 11, 12, 13, 14, 15, 16, 17, 18, 19, 20, 21, 22, 23, 24, 25, 26, 27, 28, 29, 30, 31, 32, 33, 34, 35, 36, 37, 38, 39, 40, 41, 42, 43, 44, 45, 46, 47, 48, 49, 50, 51, 52, 53, 54, 55, 56, 57, 58, 59, 60, 61, 62, 63, 64, 65, 66, 67, 68, 69, 70, 71, 72, 73, 74, 75, 76, 77, 78, 79, 80, 81, 82, 83, 84, 85, 86, 87, 88, 89, 90, 91, 92, 93, 94, 95, 96, 97, 98, 99, 100] rfl rfl (by decide +kernel) (by decide +kernel) (fun r9 u H locs hu hP hD hS => ?_)
    obtain ⟨y23, rfl⟩ : ∃ z, z = u := ⟨_, rfl⟩
    obtain ⟨r22, rfl⟩ : ∃ z, z = r9 := ⟨_, rfl⟩
    have hr22 := hu
    have hr22 : (r22.toInt = -2 ∧ (a1.toInt < 0 ∨ 3 < a1.toInt)) ∨ ((0 ≤ a1.toInt ∧ a1.toInt ≤ 3) ∧ ((MA 31) a1.toNatClampNeg).toInt = -1 ∧ r22.toInt = -6) ∨ ((0 ≤ a1.toInt ∧ a1.toInt ≤ 3) ∧ ¬ ((MA 31) a1.toNatClampNeg).toInt = -1 ∧ (a2.toInt < 0 ∨ ((MA 31) a1.toNatClampNeg).toInt ≤ a2.toInt) ∧ r22.toInt = -7) ∨ ((0 ≤ a1.toInt ∧ a1.toInt ≤ 3) ∧ ¬ ((MA 31) a1.toNatClampNeg).toInt = -1 ∧ 0 ≤ a2.toInt ∧ a2.toInt < ((MA 31) a1.toNatClampNeg).toInt ∧ r22.toInt = 0) := hr22
    have hP : va_P G vwCl (LW cs h1 Q h2 q2 F A B D MF MA MD (vA MB 33 y23)) H := hP
    have hD : va_D (fun q : Nat => s.heap.size ≤ q) (LW cs h1 Q h2 q2 F A B D MF MA MD (vA MB 33 y23)) := hD
    refine lv_pop hx hb dL_law_2089 rfl ?_
    refine lv_goto (tgt := 2156) hx hb dL_law_2090 (by decide) ?_
    exact kk F A B D MF MA MD (vA MB 33 y23) H locs ls ⟨hX.1, hX.2.1, hX.2.2.1, hX.2.2.2.1, hX.2.2.2.2.1, hX.2.2.2.2.2.1, hX.2.2.2.2.2.2.1, hX.2.2.2.2.2.2.2.1, hX.2.2.2.2.2.2.2.2.1, hX.2.2.2.2.2.2.2.2.2.1, hX.2.2.2.2.2.2.2.2.2.2.1, hX.2.2.2.2.2.2.2.2.2.2.2.1, hX.2.2.2.2.2.2.2.2.2.2.2.2.1, hX.2.2.2.2.2.2.2.2.2.2.2.2.2.1, hX.2.2.2.2.2.2.2.2.2.2.2.2.2.2.1, hX.2.2.2.2.2.2.2.2.2.2.2.2.2.2.2.1, hX.2.2.2.2.2.2.2.2.2.2.2.2.2.2.2.2.1, hX.2.2.2.2.2.2.2.2.2.2.2.2.2.2.2.2.2.1, hX.2.2.2.2.2.2.2.2.2.2.2.2.2.2.2.2.2.2.1, hX.2.2.2.2.2.2.2.2.2.2.2.2.2.2.2.2.2.2.2.1, hX.2.2.2.2.2.2.2.2.2.2.2.2.2.2.2.2.2.2.2.2.1, hX.2.2.2.2.2.2.2.2.2.2.2.2.2.2.2.2.2.2.2.2.2.1, hX.2.2.2.2.2.2.2.2.2.2.2.2.2.2.2.2.2.2.2.2.2.2.1, hX.2.2.2.2.2.2.2.2.2.2.2.2.2.2.2.2.2.2.2.2.2.2.2.1, hX.2.2.2.2.2.2.2.2.2.2.2.2.2.2.2.2.2.2.2.2.2.2.2.2.1, hX.2.2.2.2.2.2.2.2.2.2.2.2.2.2.2.2.2.2.2.2.2.2.2.2.2.1, hX.2.2.2.2.2.2.2.2.2.2.2.2.2.2.2.2.2.2.2.2.2.2.2.2.2.2⟩ ⟨hM.1, hM.2.1, hM.2.2⟩ hR hP hD hS hl
  · refine behDi (wr := ((uX6 cs (Q 0 0) (fun _ => Q 0 1) (F 1) (A 1) (B 1) (D 1)) ++ ((uX9 cs (Q 0 1) (Q 2) (F 2) (A 2) (B 2) (D 2)) ++ ((uX3 cs (Q 0 2) (Q 3) (F 3) (A 3) (B 3) (D 3)) ++ ((uX8 cs (Q 0 3) (Q 4) (F 4) (A 4) (B 4) (D 4)) ++ ((uX3 cs (Q 4 0) (Q 5) (F 5) (A 5) (B 5) (D 5)) ++ ((uX5 cs (Q 0 6) (Q 6) (F 6) (A 6) (B 6) (D 6)) ++ ((uX5 cs (Q 0 7) (Q 7) (F 7) (A 7) (B 7) (D 7)) ++ ((uX0 cs (Q 0 8) (Q 8) (F 8) (A 8) (B 8) (D 8)) ++ ((uX1 cs (Q 0 9) (Q 9) (F 9) (A 9) (B 9) (D 9)) ++ ((uX4 cs (Q 0 10) (Q 10) (F 10) (A 10) (B 10) (D 10)) ++ ((uX2 cs (Q 0 11) (Q 11) (F 11) (A 11) (B 11) (D 11)) ++ ((uX7 cs (Q 0 21) (Q 13) (F 13) (A 13) (B 13) (D 13)) ++ ((uX7 cs (Q 0 22) (Q 14) (F 14) (A 14) (B 14) (D 14)) ++ ((uX7 cs (Q 0 23) (Q 15) (F 15) (A 15) (B 15) (D 15)) ++ ((uX8 cs (Q 0 30) (Q 16) (F 16) (A 16) (B 16) (D 16)) ++ ((uX3 cs (Q 16 0) (Q 17) (F 17) (A 17) (B 17) (D 17)) ++ ((uX8 cs (Q 0 31) (Q 18) (F 18) (A 18) (B 18) (D 18)) ++ ((uX3 cs (Q 18 0) (Q 19) (F 19) (A 19) (B 19) (D 19)) ++ ((uX8 cs (Q 0 32) (Q 20) (F 20) (A 20) (B 20) (D 20)) ++ ((uX3 cs (Q 20 0) (Q 21) (F 21) (A 21) (B 21) (D 21)) ++ ((uX5 cs (Q 8 10) (Q 22) (F 22) (A 22) (B 22) (D 22)) ++ ((uX5 cs (Q 8 11) (Q 23) (F 23) (A 23) (B 23) (D 23)) ++ ((uX5 cs (Q 8 12) (Q 24) (F 24) (A 24) (B 24) (D 24)) ++ ((uX5 cs (Q 8 13) (Q 25) (F 25) (A 25) (B 25) (D 25)) ++ ((uX5 cs (Q 8 14) (Q 26) (F 26) (A 26) (B 26) (D 26)) ++ (mS cs h2 q2 MF MA MD MB))))))))))))))))))))))))))) (runVD (As := [.int 0, .int a2, .long w5]) (rest := []) ⟨hx, hb, hml, hown, ht⟩ (sX10_write_0 l G cs h1 (Q 0) (F 0) (A 0) (B 0) (D 0) hX.1 (Q 12) (F 12) (A 12) (B 12) (D 12) hX.2.2.2.2.2.2.2.2.2.2.2.2.1 a2 w5) okV_RL_271 ⟨(Nat.le_of_ble_eq_true rfl), (Nat.le_of_ble_eq_true rfl)⟩ hK hP hD [0, 1, 2, 48, 49] rfl (by decide +kernel) rfl 0 rfl rfl hl.1 rfl (Nat.le_of_ble_eq_true rfl) dL_law_2051 ⟨(Nat.le_of_ble_eq_true rfl), (Nat.le_of_ble_eq_true rfl)⟩) hP hD hS (fun _ h => h) [0, 1, 2, 48, 49] [3, 4, 5, 6, 7, 8, 9, 10, 11, 12, 13, 14, 15, 16, 17, 18, 19, 20, 21, 22, 23, 24, 25, 26, 27, 28, 29, 30, 31, 32, 33, 34, 35, 36, 37, 38, 39, 40, 41, 42, 43, 44, 45, 46, 47, 50, 51, 52, 53, 54, 55, 56, 57, 58, 59, 60, 61, 62, 63, 64, 65, 66, 67, 68, 69, 70, 71, 72, 73, 74, 75, 76, 77, 78, 79, 80, 81, 82, 83, 84, 85, 86, 87, 88, 89, 90, 91, 92, 93, 94, 95, 96, 97, 98, 99, 100, 101, 102, 103, 104, 105, 106, 107, 108, 109, 110, 111, 112, 113, 114, 115, 116, 117, 118, 119, 120] rfl rfl (by decide +kernel) (by decide +kernel) (fun r9 u H locs hu hP hD hS => ?_)
    obtain ⟨y25, rfl⟩ : ∃ z, z = u := ⟨_, rfl⟩
    obtain ⟨r24, rfl⟩ : ∃ z, z = r9 := ⟨_, rfl⟩
    have hr24 := hu
    have kk26 : (0 : Int32).toInt = 0 := by decide
    have hr24 : ((F 12 1).toInt = 0 ∧ r24.toInt = -6) ∨ (¬ (F 12 1).toInt = 0 ∧ (a2.toInt < 0 ∨ (F 12 3).toInt ≤ a2.toInt) ∧ r24.toInt = -7) ∨ (¬ (F 12 1).toInt = 0 ∧ 0 ≤ a2.toInt ∧ a2.toInt < (F 12 3).toInt ∧ r24.toInt = 0) := hr24
    have hP : va_P G vwCl (LW cs h1 Q h2 q2 F A (vA B 12 (vA (B 12) 0 y25)) D MF MA MD MB) H := hP.sub [116, 117, 118, 0, 1, 2, 3, 4, 5, 6, 7, 8, 9, 10, 11, 12, 13, 14, 15, 16, 17, 18, 19, 20, 21, 22, 23, 24, 25, 26, 27, 28, 29, 30, 31, 32, 33, 34, 35, 36, 37, 38, 39, 40, 41, 42, 43, 44, 119, 120, 45, 46, 47, 48, 49, 50, 51, 52, 53, 54, 55, 56, 57, 58, 59, 60, 61, 62, 63, 64, 65, 66, 67, 68, 69, 70, 71, 72, 73, 74, 75, 76, 77, 78, 79, 80, 81, 82, 83, 84, 85, 86, 87, 88, 89, 90, 91, 92, 93, 94, 95, 96, 97, 98, 99, 100, 101, 102, 103, 104, 105, 106, 107, 108, 109, 110, 111, 112, 113, 114, 115] rfl
    have hD : va_D (fun q : Nat => s.heap.size ≤ q) (LW cs h1 Q h2 q2 F A (vA B 12 (vA (B 12) 0 y25)) D MF MA MD MB) := hD.sub [116, 117, 118, 0, 1, 2, 3, 4, 5, 6, 7, 8, 9, 10, 11, 12, 13, 14, 15, 16, 17, 18, 19, 20, 21, 22, 23, 24, 25, 26, 27, 28, 29, 30, 31, 32, 33, 34, 35, 36, 37, 38, 39, 40, 41, 42, 43, 44, 119, 120, 45, 46, 47, 48, 49, 50, 51, 52, 53, 54, 55, 56, 57, 58, 59, 60, 61, 62, 63, 64, 65, 66, 67, 68, 69, 70, 71, 72, 73, 74, 75, 76, 77, 78, 79, 80, 81, 82, 83, 84, 85, 86, 87, 88, 89, 90, 91, 92, 93, 94, 95, 96, 97, 98, 99, 100, 101, 102, 103, 104, 105, 106, 107, 108, 109, 110, 111, 112, 113, 114, 115] (by decide +kernel) rfl
    refine lv_pop hx hb dL_law_2054 rfl ?_
    refine lv_aload_n hx hb dL_law_2055 rfl (lv_at hl 1 rfl) ?_
    refine lv_aload_n hx hb dL_law_2056 rfl (lv_at hl 3 rfl) ?_
    refine lv_iload_n hx hb dL_law_2057 rfl (lv_at hl 0 rfl) ?_
    refine lv_iconst (v := 1) hx hb dL_law_2058 (by decide) ?_
    refine lv_iadd hx hb dL_law_2059 ?_
    refine va_sld hx hb hXs hbl hbA hS (inK t1 (by omega) (by omega)) dL_law_2060 ?_
    refine W.eq (g2 := F0 m 2061 ls [.int 0, .ref h2]) (by rw [← ea1]) ?_
    refine lv_aload_n hx hb dL_law_2061 rfl (lv_at hl 3 rfl) ?_
    refine lv_iload_n hx hb dL_law_2062 rfl (lv_at hl 0 rfl) ?_
    refine lv_iconst (v := 2) hx hb dL_law_2063 (by decide) ?_
    refine lv_iadd hx hb dL_law_2064 ?_
    refine va_sld hx hb hXs hbl hbA hS (inK t2 (by omega) (by omega)) dL_law_2065 ?_
    refine W.eq (g2 := F0 m 2066 ls [.int a2, .int 0, .ref h2]) (by rw [← ea2]) ?_
    refine lv_aload_n hx hb dL_law_2066 rfl (lv_at hl 3 rfl) ?_
    refine lv_iload_n hx hb dL_law_2067 rfl (lv_at hl 0 rfl) ?_
    refine lv_iconst (v := 3) hx hb dL_law_2068 (by decide) ?_
    refine lv_iadd hx hb dL_law_2069 ?_
    refine va_sld hx hb hXs hbl hbA hS (inK t3 (by omega) (by omega)) dL_law_2070 ?_
    refine W.eq (g2 := F0 m 2071 ls [.int a3, .int a2, .int 0, .ref h2]) (by rw [← ea3]) ?_
    refine lv_i2l hx hb dL_law_2071 rfl ?_
    refine lv_topl (fun w27 ew27 => ?_)
    refine lv_bipush (v := 32) hx hb dL_law_2072 (by decide) ?_
    refine lv_lshl hx hb dL_law_2074 rfl ?_
    refine lv_topl (fun w28 ew28 => ?_)
    refine lv_aload_n hx hb dL_law_2075 rfl (lv_at hl 3 rfl) ?_
    refine lv_iload_n hx hb dL_law_2076 rfl (lv_at hl 0 rfl) ?_
    refine lv_iconst (v := 4) hx hb dL_law_2077 (by decide) ?_
    refine lv_iadd hx hb dL_law_2078 ?_
    refine va_sld hx hb hXs hbl hbA hS (inK t4 (by omega) (by omega)) dL_law_2079 ?_
    refine W.eq (g2 := F0 m 2080 ls [.int a4, .long w28, .int a2, .int 0, .ref h2]) (by rw [← ea4]) ?_
    refine lv_i2l hx hb dL_law_2080 rfl ?_
    refine lv_topl (fun w29 ew29 => ?_)
    refine lv_ldc2 hx hb hown (ht _ kl_RL_269) dL_law_2081 ?_
    refine lv_land hx hb dL_law_2084 ?_
    refine lv_topl (fun w30 ew30 => ?_)
    refine lv_lor hx hb dL_law_2085 ?_
    refine lv_topl (fun w31 ew31 => ?_)
    refine behDi (wr := (XLW cs h1 Q F A (vA B 12 (vA (B 12) 0 y25)) D)) (runVD (As := [.int 0, .int a2, .long w31]) (rest := []) ⟨hx, hb, hml, hown, ht⟩ (sX11_write l G cs h2 q2 MF MA MD MB hM.1 0 a2 w31) okV_RL_275 ⟨(Nat.le_of_ble_eq_true rfl), (Nat.le_of_ble_eq_true rfl)⟩ hK hP hD [101, 102, 103, 104, 105, 106, 107, 108, 109, 110, 111, 112, 113, 114, 115, 116, 117, 118, 119, 120] rfl (by decide +kernel) rfl 101 rfl rfl hl.1 rfl (Nat.le_of_ble_eq_true rfl) dL_law_2086 ⟨(Nat.le_of_ble_eq_true rfl), (Nat.le_of_ble_eq_true rfl)⟩) hP hD hS (fun _ h => h) [101, 102, 103, 104, 105, 106, 107, 108, 109, 110, 111, 112, 113, 114, 115, 116, 117, 118, 119, 120] [0, 1, 2, 3, 4, 5, 6, 7, 8, 9, 10, 11, 12, 13, 14, 15, 16, 17, 18, 19, 20, 21, 22, 23, 24, 25, 26, 27, 28, 29, 30, 31, 32, 33, 34, 35, 36, 37, 38, 39, 40, 41, 42, 43, 44, 45, 46, 47, 48, 49, 50, 51, 52, 53, 54, 55, 56, 57, 58, 59, 60, 61, 62, 63, 64, 65, 66, 67, 68, 69, 70, 71, 72, 73, 74, 75, 76, 77, 78, 79, 80, 81, 82, 83, 84, 85, 86, 87, 88, 89, 90, 91, 92, 93, 94, 95, 96, 97, 98, 99, 100] rfl rfl (by decide +kernel) (by decide +kernel) (fun r9 u H locs hu hP hD hS => ?_)
    obtain ⟨y33, rfl⟩ : ∃ z, z = u := ⟨_, rfl⟩
    obtain ⟨r32, rfl⟩ : ∃ z, z = r9 := ⟨_, rfl⟩
    have hr32 := hu
    have kk34 : (0 : Int32).toInt = 0 := by decide
    have hr32 : (r32.toInt = -2 ∧ ((0 : Int32).toInt < 0 ∨ 3 < (0 : Int32).toInt)) ∨ ((0 ≤ (0 : Int32).toInt ∧ (0 : Int32).toInt ≤ 3) ∧ ((MA 31) (0 : Int32).toNatClampNeg).toInt = -1 ∧ r32.toInt = -6) ∨ ((0 ≤ (0 : Int32).toInt ∧ (0 : Int32).toInt ≤ 3) ∧ ¬ ((MA 31) (0 : Int32).toNatClampNeg).toInt = -1 ∧ (a2.toInt < 0 ∨ ((MA 31) (0 : Int32).toNatClampNeg).toInt ≤ a2.toInt) ∧ r32.toInt = -7) ∨ ((0 ≤ (0 : Int32).toInt ∧ (0 : Int32).toInt ≤ 3) ∧ ¬ ((MA 31) (0 : Int32).toNatClampNeg).toInt = -1 ∧ 0 ≤ a2.toInt ∧ a2.toInt < ((MA 31) (0 : Int32).toNatClampNeg).toInt ∧ r32.toInt = 0) := hr32
    have hP : va_P G vwCl (LW cs h1 Q h2 q2 F A (vA B 12 (vA (B 12) 0 y25)) D MF MA MD (vA MB 33 y33)) H := hP
    have hD : va_D (fun q : Nat => s.heap.size ≤ q) (LW cs h1 Q h2 q2 F A (vA B 12 (vA (B 12) 0 y25)) D MF MA MD (vA MB 33 y33)) := hD
    have n31_0 : (MA 31 (0 : Int32).toNatClampNeg).toInt = (MA 31 0).toInt := congrArg (fun z => (MA 31 z).toInt) (show (0 : Int32).toNatClampNeg = 0 by decide)
    have n32_0 : (MA 32 (0 : Int32).toNatClampNeg).toInt = (MA 32 0).toInt := congrArg (fun z => (MA 32 z).toInt) (show (0 : Int32).toNatClampNeg = 0 by decide)
    have nsr_0 : ((F 12 1).toInt = 0 ∧ (MA 31 0).toInt = -1) ∨ (¬ (F 12 1).toInt = 0 ∧ (MA 31 0).toInt = (F 12 3).toInt ∧ 0 ≤ (F 12 3).toInt ∧ (MA 32 0).toInt = (F 12 2).toInt) := hR.2.2.2.1
    refine lv_pop hx hb dL_law_2089 rfl ?_
    refine lv_goto (tgt := 2156) hx hb dL_law_2090 (by decide) ?_
    exact kk F A (vA B 12 (vA (B 12) 0 y25)) D MF MA MD (vA MB 33 y33) H locs ls ⟨hX.1, hX.2.1, hX.2.2.1, hX.2.2.2.1, hX.2.2.2.2.1, hX.2.2.2.2.2.1, hX.2.2.2.2.2.2.1, hX.2.2.2.2.2.2.2.1, hX.2.2.2.2.2.2.2.2.1, hX.2.2.2.2.2.2.2.2.2.1, hX.2.2.2.2.2.2.2.2.2.2.1, hX.2.2.2.2.2.2.2.2.2.2.2.1, hX.2.2.2.2.2.2.2.2.2.2.2.2.1, hX.2.2.2.2.2.2.2.2.2.2.2.2.2.1, hX.2.2.2.2.2.2.2.2.2.2.2.2.2.2.1, hX.2.2.2.2.2.2.2.2.2.2.2.2.2.2.2.1, hX.2.2.2.2.2.2.2.2.2.2.2.2.2.2.2.2.1, hX.2.2.2.2.2.2.2.2.2.2.2.2.2.2.2.2.2.1, hX.2.2.2.2.2.2.2.2.2.2.2.2.2.2.2.2.2.2.1, hX.2.2.2.2.2.2.2.2.2.2.2.2.2.2.2.2.2.2.2.1, hX.2.2.2.2.2.2.2.2.2.2.2.2.2.2.2.2.2.2.2.2.1, hX.2.2.2.2.2.2.2.2.2.2.2.2.2.2.2.2.2.2.2.2.2.1, hX.2.2.2.2.2.2.2.2.2.2.2.2.2.2.2.2.2.2.2.2.2.2.1, hX.2.2.2.2.2.2.2.2.2.2.2.2.2.2.2.2.2.2.2.2.2.2.2.1, hX.2.2.2.2.2.2.2.2.2.2.2.2.2.2.2.2.2.2.2.2.2.2.2.2.1, hX.2.2.2.2.2.2.2.2.2.2.2.2.2.2.2.2.2.2.2.2.2.2.2.2.2.1, hX.2.2.2.2.2.2.2.2.2.2.2.2.2.2.2.2.2.2.2.2.2.2.2.2.2.2⟩ ⟨hM.1, hM.2.1, hM.2.2⟩ hR hP hD hS hl
  · refine behDi (wr := ((uX6 cs (Q 0 0) (fun _ => Q 0 1) (F 1) (A 1) (B 1) (D 1)) ++ ((uX9 cs (Q 0 1) (Q 2) (F 2) (A 2) (B 2) (D 2)) ++ ((uX3 cs (Q 0 2) (Q 3) (F 3) (A 3) (B 3) (D 3)) ++ ((uX8 cs (Q 0 3) (Q 4) (F 4) (A 4) (B 4) (D 4)) ++ ((uX3 cs (Q 4 0) (Q 5) (F 5) (A 5) (B 5) (D 5)) ++ ((uX5 cs (Q 0 6) (Q 6) (F 6) (A 6) (B 6) (D 6)) ++ ((uX5 cs (Q 0 7) (Q 7) (F 7) (A 7) (B 7) (D 7)) ++ ((uX0 cs (Q 0 8) (Q 8) (F 8) (A 8) (B 8) (D 8)) ++ ((uX1 cs (Q 0 9) (Q 9) (F 9) (A 9) (B 9) (D 9)) ++ ((uX4 cs (Q 0 10) (Q 10) (F 10) (A 10) (B 10) (D 10)) ++ ((uX2 cs (Q 0 11) (Q 11) (F 11) (A 11) (B 11) (D 11)) ++ ((uX7 cs (Q 0 20) (Q 12) (F 12) (A 12) (B 12) (D 12)) ++ ((uX7 cs (Q 0 22) (Q 14) (F 14) (A 14) (B 14) (D 14)) ++ ((uX7 cs (Q 0 23) (Q 15) (F 15) (A 15) (B 15) (D 15)) ++ ((uX8 cs (Q 0 30) (Q 16) (F 16) (A 16) (B 16) (D 16)) ++ ((uX3 cs (Q 16 0) (Q 17) (F 17) (A 17) (B 17) (D 17)) ++ ((uX8 cs (Q 0 31) (Q 18) (F 18) (A 18) (B 18) (D 18)) ++ ((uX3 cs (Q 18 0) (Q 19) (F 19) (A 19) (B 19) (D 19)) ++ ((uX8 cs (Q 0 32) (Q 20) (F 20) (A 20) (B 20) (D 20)) ++ ((uX3 cs (Q 20 0) (Q 21) (F 21) (A 21) (B 21) (D 21)) ++ ((uX5 cs (Q 8 10) (Q 22) (F 22) (A 22) (B 22) (D 22)) ++ ((uX5 cs (Q 8 11) (Q 23) (F 23) (A 23) (B 23) (D 23)) ++ ((uX5 cs (Q 8 12) (Q 24) (F 24) (A 24) (B 24) (D 24)) ++ ((uX5 cs (Q 8 13) (Q 25) (F 25) (A 25) (B 25) (D 25)) ++ ((uX5 cs (Q 8 14) (Q 26) (F 26) (A 26) (B 26) (D 26)) ++ (mS cs h2 q2 MF MA MD MB))))))))))))))))))))))))))) (runVD (As := [.int 1, .int a2, .long w5]) (rest := []) ⟨hx, hb, hml, hown, ht⟩ (sX10_write_1 l G cs h1 (Q 0) (F 0) (A 0) (B 0) (D 0) hX.1 (Q 13) (F 13) (A 13) (B 13) (D 13) hX.2.2.2.2.2.2.2.2.2.2.2.2.2.1 a2 w5) okV_RL_271 ⟨(Nat.le_of_ble_eq_true rfl), (Nat.le_of_ble_eq_true rfl)⟩ hK hP hD [0, 1, 2, 50, 51] rfl (by decide +kernel) rfl 0 rfl rfl hl.1 rfl (Nat.le_of_ble_eq_true rfl) dL_law_2051 ⟨(Nat.le_of_ble_eq_true rfl), (Nat.le_of_ble_eq_true rfl)⟩) hP hD hS (fun _ h => h) [0, 1, 2, 50, 51] [3, 4, 5, 6, 7, 8, 9, 10, 11, 12, 13, 14, 15, 16, 17, 18, 19, 20, 21, 22, 23, 24, 25, 26, 27, 28, 29, 30, 31, 32, 33, 34, 35, 36, 37, 38, 39, 40, 41, 42, 43, 44, 45, 46, 47, 48, 49, 52, 53, 54, 55, 56, 57, 58, 59, 60, 61, 62, 63, 64, 65, 66, 67, 68, 69, 70, 71, 72, 73, 74, 75, 76, 77, 78, 79, 80, 81, 82, 83, 84, 85, 86, 87, 88, 89, 90, 91, 92, 93, 94, 95, 96, 97, 98, 99, 100, 101, 102, 103, 104, 105, 106, 107, 108, 109, 110, 111, 112, 113, 114, 115, 116, 117, 118, 119, 120] rfl rfl (by decide +kernel) (by decide +kernel) (fun r9 u H locs hu hP hD hS => ?_)
    obtain ⟨y36, rfl⟩ : ∃ z, z = u := ⟨_, rfl⟩
    obtain ⟨r35, rfl⟩ : ∃ z, z = r9 := ⟨_, rfl⟩
    have hr35 := hu
    have kk37 : (1 : Int32).toInt = 1 := by decide
    have hr35 : ((F 13 1).toInt = 0 ∧ r35.toInt = -6) ∨ (¬ (F 13 1).toInt = 0 ∧ (a2.toInt < 0 ∨ (F 13 3).toInt ≤ a2.toInt) ∧ r35.toInt = -7) ∨ (¬ (F 13 1).toInt = 0 ∧ 0 ≤ a2.toInt ∧ a2.toInt < (F 13 3).toInt ∧ r35.toInt = 0) := hr35
    have hP : va_P G vwCl (LW cs h1 Q h2 q2 F A (vA B 13 (vA (B 13) 0 y36)) D MF MA MD MB) H := hP.sub [116, 117, 118, 0, 1, 2, 3, 4, 5, 6, 7, 8, 9, 10, 11, 12, 13, 14, 15, 16, 17, 18, 19, 20, 21, 22, 23, 24, 25, 26, 27, 28, 29, 30, 31, 32, 33, 34, 35, 36, 37, 38, 39, 40, 41, 42, 43, 44, 45, 46, 119, 120, 47, 48, 49, 50, 51, 52, 53, 54, 55, 56, 57, 58, 59, 60, 61, 62, 63, 64, 65, 66, 67, 68, 69, 70, 71, 72, 73, 74, 75, 76, 77, 78, 79, 80, 81, 82, 83, 84, 85, 86, 87, 88, 89, 90, 91, 92, 93, 94, 95, 96, 97, 98, 99, 100, 101, 102, 103, 104, 105, 106, 107, 108, 109, 110, 111, 112, 113, 114, 115] rfl
    have hD : va_D (fun q : Nat => s.heap.size ≤ q) (LW cs h1 Q h2 q2 F A (vA B 13 (vA (B 13) 0 y36)) D MF MA MD MB) := hD.sub [116, 117, 118, 0, 1, 2, 3, 4, 5, 6, 7, 8, 9, 10, 11, 12, 13, 14, 15, 16, 17, 18, 19, 20, 21, 22, 23, 24, 25, 26, 27, 28, 29, 30, 31, 32, 33, 34, 35, 36, 37, 38, 39, 40, 41, 42, 43, 44, 45, 46, 119, 120, 47, 48, 49, 50, 51, 52, 53, 54, 55, 56, 57, 58, 59, 60, 61, 62, 63, 64, 65, 66, 67, 68, 69, 70, 71, 72, 73, 74, 75, 76, 77, 78, 79, 80, 81, 82, 83, 84, 85, 86, 87, 88, 89, 90, 91, 92, 93, 94, 95, 96, 97, 98, 99, 100, 101, 102, 103, 104, 105, 106, 107, 108, 109, 110, 111, 112, 113, 114, 115] (by decide +kernel) rfl
    refine lv_pop hx hb dL_law_2054 rfl ?_
    refine lv_aload_n hx hb dL_law_2055 rfl (lv_at hl 1 rfl) ?_
    refine lv_aload_n hx hb dL_law_2056 rfl (lv_at hl 3 rfl) ?_
    refine lv_iload_n hx hb dL_law_2057 rfl (lv_at hl 0 rfl) ?_
    refine lv_iconst (v := 1) hx hb dL_law_2058 (by decide) ?_
    refine lv_iadd hx hb dL_law_2059 ?_
    refine va_sld hx hb hXs hbl hbA hS (inK t1 (by omega) (by omega)) dL_law_2060 ?_
    refine W.eq (g2 := F0 m 2061 ls [.int 1, .ref h2]) (by rw [← ea1]) ?_
    refine lv_aload_n hx hb dL_law_2061 rfl (lv_at hl 3 rfl) ?_
    refine lv_iload_n hx hb dL_law_2062 rfl (lv_at hl 0 rfl) ?_
    refine lv_iconst (v := 2) hx hb dL_law_2063 (by decide) ?_
    refine lv_iadd hx hb dL_law_2064 ?_
    refine va_sld hx hb hXs hbl hbA hS (inK t2 (by omega) (by omega)) dL_law_2065 ?_
    refine W.eq (g2 := F0 m 2066 ls [.int a2, .int 1, .ref h2]) (by rw [← ea2]) ?_
    refine lv_aload_n hx hb dL_law_2066 rfl (lv_at hl 3 rfl) ?_
    refine lv_iload_n hx hb dL_law_2067 rfl (lv_at hl 0 rfl) ?_
    refine lv_iconst (v := 3) hx hb dL_law_2068 (by decide) ?_
    refine lv_iadd hx hb dL_law_2069 ?_
    refine va_sld hx hb hXs hbl hbA hS (inK t3 (by omega) (by omega)) dL_law_2070 ?_
    refine W.eq (g2 := F0 m 2071 ls [.int a3, .int a2, .int 1, .ref h2]) (by rw [← ea3]) ?_
    refine lv_i2l hx hb dL_law_2071 rfl ?_
    refine lv_topl (fun w38 ew38 => ?_)
    refine lv_bipush (v := 32) hx hb dL_law_2072 (by decide) ?_
    refine lv_lshl hx hb dL_law_2074 rfl ?_
    refine lv_topl (fun w39 ew39 => ?_)
    refine lv_aload_n hx hb dL_law_2075 rfl (lv_at hl 3 rfl) ?_
    refine lv_iload_n hx hb dL_law_2076 rfl (lv_at hl 0 rfl) ?_
    refine lv_iconst (v := 4) hx hb dL_law_2077 (by decide) ?_
    refine lv_iadd hx hb dL_law_2078 ?_
    refine va_sld hx hb hXs hbl hbA hS (inK t4 (by omega) (by omega)) dL_law_2079 ?_
    refine W.eq (g2 := F0 m 2080 ls [.int a4, .long w39, .int a2, .int 1, .ref h2]) (by rw [← ea4]) ?_
    refine lv_i2l hx hb dL_law_2080 rfl ?_
    refine lv_topl (fun w40 ew40 => ?_)
    refine lv_ldc2 hx hb hown (ht _ kl_RL_269) dL_law_2081 ?_
    refine lv_land hx hb dL_law_2084 ?_
    refine lv_topl (fun w41 ew41 => ?_)
    refine lv_lor hx hb dL_law_2085 ?_
    refine lv_topl (fun w42 ew42 => ?_)
    refine behDi (wr := (XLW cs h1 Q F A (vA B 13 (vA (B 13) 0 y36)) D)) (runVD (As := [.int 1, .int a2, .long w42]) (rest := []) ⟨hx, hb, hml, hown, ht⟩ (sX11_write l G cs h2 q2 MF MA MD MB hM.1 1 a2 w42) okV_RL_275 ⟨(Nat.le_of_ble_eq_true rfl), (Nat.le_of_ble_eq_true rfl)⟩ hK hP hD [101, 102, 103, 104, 105, 106, 107, 108, 109, 110, 111, 112, 113, 114, 115, 116, 117, 118, 119, 120] rfl (by decide +kernel) rfl 101 rfl rfl hl.1 rfl (Nat.le_of_ble_eq_true rfl) dL_law_2086 ⟨(Nat.le_of_ble_eq_true rfl), (Nat.le_of_ble_eq_true rfl)⟩) hP hD hS (fun _ h => h) [101, 102, 103, 104, 105, 106, 107, 108, 109, 110, 111, 112, 113, 114, 115, 116, 117, 118, 119, 120] [0, 1, 2, 3, 4, 5, 6, 7, 8, 9, 10, 11, 12, 13, 14, 15, 16, 17, 18, 19, 20, 21, 22, 23, 24, 25, 26, 27, 28, 29, 30, 31, 32, 33, 34, 35, 36, 37, 38, 39, 40, 41, 42, 43, 44, 45, 46, 47, 48, 49, 50, 51, 52, 53, 54, 55, 56, 57, 58, 59, 60, 61, 62, 63, 64, 65, 66, 67, 68, 69, 70, 71, 72, 73, 74, 75, 76, 77, 78, 79, 80, 81, 82, 83, 84, 85, 86, 87, 88, 89, 90, 91, 92, 93, 94, 95, 96, 97, 98, 99, 100] rfl rfl (by decide +kernel) (by decide +kernel) (fun r9 u H locs hu hP hD hS => ?_)
    obtain ⟨y44, rfl⟩ : ∃ z, z = u := ⟨_, rfl⟩
    obtain ⟨r43, rfl⟩ : ∃ z, z = r9 := ⟨_, rfl⟩
    have hr43 := hu
    have kk45 : (1 : Int32).toInt = 1 := by decide
    have hr43 : (r43.toInt = -2 ∧ ((1 : Int32).toInt < 0 ∨ 3 < (1 : Int32).toInt)) ∨ ((0 ≤ (1 : Int32).toInt ∧ (1 : Int32).toInt ≤ 3) ∧ ((MA 31) (1 : Int32).toNatClampNeg).toInt = -1 ∧ r43.toInt = -6) ∨ ((0 ≤ (1 : Int32).toInt ∧ (1 : Int32).toInt ≤ 3) ∧ ¬ ((MA 31) (1 : Int32).toNatClampNeg).toInt = -1 ∧ (a2.toInt < 0 ∨ ((MA 31) (1 : Int32).toNatClampNeg).toInt ≤ a2.toInt) ∧ r43.toInt = -7) ∨ ((0 ≤ (1 : Int32).toInt ∧ (1 : Int32).toInt ≤ 3) ∧ ¬ ((MA 31) (1 : Int32).toNatClampNeg).toInt = -1 ∧ 0 ≤ a2.toInt ∧ a2.toInt < ((MA 31) (1 : Int32).toNatClampNeg).toInt ∧ r43.toInt = 0) := hr43
    have hP : va_P G vwCl (LW cs h1 Q h2 q2 F A (vA B 13 (vA (B 13) 0 y36)) D MF MA MD (vA MB 33 y44)) H := hP
    have hD : va_D (fun q : Nat => s.heap.size ≤ q) (LW cs h1 Q h2 q2 F A (vA B 13 (vA (B 13) 0 y36)) D MF MA MD (vA MB 33 y44)) := hD
    have n31_1 : (MA 31 (1 : Int32).toNatClampNeg).toInt = (MA 31 1).toInt := congrArg (fun z => (MA 31 z).toInt) (show (1 : Int32).toNatClampNeg = 1 by decide)
    have n32_1 : (MA 32 (1 : Int32).toNatClampNeg).toInt = (MA 32 1).toInt := congrArg (fun z => (MA 32 z).toInt) (show (1 : Int32).toNatClampNeg = 1 by decide)
    have nsr_1 : ((F 13 1).toInt = 0 ∧ (MA 31 1).toInt = -1) ∨ (¬ (F 13 1).toInt = 0 ∧ (MA 31 1).toInt = (F 13 3).toInt ∧ 0 ≤ (F 13 3).toInt ∧ (MA 32 1).toInt = (F 13 2).toInt) := hR.2.2.2.2.1
    refine lv_pop hx hb dL_law_2089 rfl ?_
    refine lv_goto (tgt := 2156) hx hb dL_law_2090 (by decide) ?_
    exact kk F A (vA B 13 (vA (B 13) 0 y36)) D MF MA MD (vA MB 33 y44) H locs ls ⟨hX.1, hX.2.1, hX.2.2.1, hX.2.2.2.1, hX.2.2.2.2.1, hX.2.2.2.2.2.1, hX.2.2.2.2.2.2.1, hX.2.2.2.2.2.2.2.1, hX.2.2.2.2.2.2.2.2.1, hX.2.2.2.2.2.2.2.2.2.1, hX.2.2.2.2.2.2.2.2.2.2.1, hX.2.2.2.2.2.2.2.2.2.2.2.1, hX.2.2.2.2.2.2.2.2.2.2.2.2.1, hX.2.2.2.2.2.2.2.2.2.2.2.2.2.1, hX.2.2.2.2.2.2.2.2.2.2.2.2.2.2.1, hX.2.2.2.2.2.2.2.2.2.2.2.2.2.2.2.1, hX.2.2.2.2.2.2.2.2.2.2.2.2.2.2.2.2.1, hX.2.2.2.2.2.2.2.2.2.2.2.2.2.2.2.2.2.1, hX.2.2.2.2.2.2.2.2.2.2.2.2.2.2.2.2.2.2.1, hX.2.2.2.2.2.2.2.2.2.2.2.2.2.2.2.2.2.2.2.1, hX.2.2.2.2.2.2.2.2.2.2.2.2.2.2.2.2.2.2.2.2.1, hX.2.2.2.2.2.2.2.2.2.2.2.2.2.2.2.2.2.2.2.2.2.1, hX.2.2.2.2.2.2.2.2.2.2.2.2.2.2.2.2.2.2.2.2.2.2.1, hX.2.2.2.2.2.2.2.2.2.2.2.2.2.2.2.2.2.2.2.2.2.2.2.1, hX.2.2.2.2.2.2.2.2.2.2.2.2.2.2.2.2.2.2.2.2.2.2.2.2.1, hX.2.2.2.2.2.2.2.2.2.2.2.2.2.2.2.2.2.2.2.2.2.2.2.2.2.1, hX.2.2.2.2.2.2.2.2.2.2.2.2.2.2.2.2.2.2.2.2.2.2.2.2.2.2⟩ ⟨hM.1, hM.2.1, hM.2.2⟩ hR hP hD hS hl
  · refine behDi (wr := ((uX6 cs (Q 0 0) (fun _ => Q 0 1) (F 1) (A 1) (B 1) (D 1)) ++ ((uX9 cs (Q 0 1) (Q 2) (F 2) (A 2) (B 2) (D 2)) ++ ((uX3 cs (Q 0 2) (Q 3) (F 3) (A 3) (B 3) (D 3)) ++ ((uX8 cs (Q 0 3) (Q 4) (F 4) (A 4) (B 4) (D 4)) ++ ((uX3 cs (Q 4 0) (Q 5) (F 5) (A 5) (B 5) (D 5)) ++ ((uX5 cs (Q 0 6) (Q 6) (F 6) (A 6) (B 6) (D 6)) ++ ((uX5 cs (Q 0 7) (Q 7) (F 7) (A 7) (B 7) (D 7)) ++ ((uX0 cs (Q 0 8) (Q 8) (F 8) (A 8) (B 8) (D 8)) ++ ((uX1 cs (Q 0 9) (Q 9) (F 9) (A 9) (B 9) (D 9)) ++ ((uX4 cs (Q 0 10) (Q 10) (F 10) (A 10) (B 10) (D 10)) ++ ((uX2 cs (Q 0 11) (Q 11) (F 11) (A 11) (B 11) (D 11)) ++ ((uX7 cs (Q 0 20) (Q 12) (F 12) (A 12) (B 12) (D 12)) ++ ((uX7 cs (Q 0 21) (Q 13) (F 13) (A 13) (B 13) (D 13)) ++ ((uX7 cs (Q 0 23) (Q 15) (F 15) (A 15) (B 15) (D 15)) ++ ((uX8 cs (Q 0 30) (Q 16) (F 16) (A 16) (B 16) (D 16)) ++ ((uX3 cs (Q 16 0) (Q 17) (F 17) (A 17) (B 17) (D 17)) ++ ((uX8 cs (Q 0 31) (Q 18) (F 18) (A 18) (B 18) (D 18)) ++ ((uX3 cs (Q 18 0) (Q 19) (F 19) (A 19) (B 19) (D 19)) ++ ((uX8 cs (Q 0 32) (Q 20) (F 20) (A 20) (B 20) (D 20)) ++ ((uX3 cs (Q 20 0) (Q 21) (F 21) (A 21) (B 21) (D 21)) ++ ((uX5 cs (Q 8 10) (Q 22) (F 22) (A 22) (B 22) (D 22)) ++ ((uX5 cs (Q 8 11) (Q 23) (F 23) (A 23) (B 23) (D 23)) ++ ((uX5 cs (Q 8 12) (Q 24) (F 24) (A 24) (B 24) (D 24)) ++ ((uX5 cs (Q 8 13) (Q 25) (F 25) (A 25) (B 25) (D 25)) ++ ((uX5 cs (Q 8 14) (Q 26) (F 26) (A 26) (B 26) (D 26)) ++ (mS cs h2 q2 MF MA MD MB))))))))))))))))))))))))))) (runVD (As := [.int 2, .int a2, .long w5]) (rest := []) ⟨hx, hb, hml, hown, ht⟩ (sX10_write_2 l G cs h1 (Q 0) (F 0) (A 0) (B 0) (D 0) hX.1 (Q 14) (F 14) (A 14) (B 14) (D 14) hX.2.2.2.2.2.2.2.2.2.2.2.2.2.2.1 a2 w5) okV_RL_271 ⟨(Nat.le_of_ble_eq_true rfl), (Nat.le_of_ble_eq_true rfl)⟩ hK hP hD [0, 1, 2, 52, 53] rfl (by decide +kernel) rfl 0 rfl rfl hl.1 rfl (Nat.le_of_ble_eq_true rfl) dL_law_2051 ⟨(Nat.le_of_ble_eq_true rfl), (Nat.le_of_ble_eq_true rfl)⟩) hP hD hS (fun _ h => h) [0, 1, 2, 52, 53] [3, 4, 5, 6, 7, 8, 9, 10, 11, 12, 13, 14, 15, 16, 17, 18, 19, 20, 21, 22, 23, 24, 25, 26, 27, 28, 29, 30, 31, 32, 33, 34, 35, 36, 37, 38, 39, 40, 41, 42, 43, 44, 45, 46, 47, 48, 49, 50, 51, 54, 55, 56, 57, 58, 59, 60, 61, 62, 63, 64, 65, 66, 67, 68, 69, 70, 71, 72, 73, 74, 75, 76, 77, 78, 79, 80, 81, 82, 83, 84, 85, 86, 87, 88, 89, 90, 91, 92, 93, 94, 95, 96, 97, 98, 99, 100, 101, 102, 103, 104, 105, 106, 107, 108, 109, 110, 111, 112, 113, 114, 115, 116, 117, 118, 119, 120] rfl rfl (by decide +kernel) (by decide +kernel) (fun r9 u H locs hu hP hD hS => ?_)
    obtain ⟨y47, rfl⟩ : ∃ z, z = u := ⟨_, rfl⟩
    obtain ⟨r46, rfl⟩ : ∃ z, z = r9 := ⟨_, rfl⟩
    have hr46 := hu
    have kk48 : (2 : Int32).toInt = 2 := by decide
    have hr46 : ((F 14 1).toInt = 0 ∧ r46.toInt = -6) ∨ (¬ (F 14 1).toInt = 0 ∧ (a2.toInt < 0 ∨ (F 14 3).toInt ≤ a2.toInt) ∧ r46.toInt = -7) ∨ (¬ (F 14 1).toInt = 0 ∧ 0 ≤ a2.toInt ∧ a2.toInt < (F 14 3).toInt ∧ r46.toInt = 0) := hr46
    have hP : va_P G vwCl (LW cs h1 Q h2 q2 F A (vA B 14 (vA (B 14) 0 y47)) D MF MA MD MB) H := hP.sub [116, 117, 118, 0, 1, 2, 3, 4, 5, 6, 7, 8, 9, 10, 11, 12, 13, 14, 15, 16, 17, 18, 19, 20, 21, 22, 23, 24, 25, 26, 27, 28, 29, 30, 31, 32, 33, 34, 35, 36, 37, 38, 39, 40, 41, 42, 43, 44, 45, 46, 47, 48, 119, 120, 49, 50, 51, 52, 53, 54, 55, 56, 57, 58, 59, 60, 61, 62, 63, 64, 65, 66, 67, 68, 69, 70, 71, 72, 73, 74, 75, 76, 77, 78, 79, 80, 81, 82, 83, 84, 85, 86, 87, 88, 89, 90, 91, 92, 93, 94, 95, 96, 97, 98, 99, 100, 101, 102, 103, 104, 105, 106, 107, 108, 109, 110, 111, 112, 113, 114, 115] rfl
    have hD : va_D (fun q : Nat => s.heap.size ≤ q) (LW cs h1 Q h2 q2 F A (vA B 14 (vA (B 14) 0 y47)) D MF MA MD MB) := hD.sub [116, 117, 118, 0, 1, 2, 3, 4, 5, 6, 7, 8, 9, 10, 11, 12, 13, 14, 15, 16, 17, 18, 19, 20, 21, 22, 23, 24, 25, 26, 27, 28, 29, 30, 31, 32, 33, 34, 35, 36, 37, 38, 39, 40, 41, 42, 43, 44, 45, 46, 47, 48, 119, 120, 49, 50, 51, 52, 53, 54, 55, 56, 57, 58, 59, 60, 61, 62, 63, 64, 65, 66, 67, 68, 69, 70, 71, 72, 73, 74, 75, 76, 77, 78, 79, 80, 81, 82, 83, 84, 85, 86, 87, 88, 89, 90, 91, 92, 93, 94, 95, 96, 97, 98, 99, 100, 101, 102, 103, 104, 105, 106, 107, 108, 109, 110, 111, 112, 113, 114, 115] (by decide +kernel) rfl
    refine lv_pop hx hb dL_law_2054 rfl ?_
    refine lv_aload_n hx hb dL_law_2055 rfl (lv_at hl 1 rfl) ?_
    refine lv_aload_n hx hb dL_law_2056 rfl (lv_at hl 3 rfl) ?_
    refine lv_iload_n hx hb dL_law_2057 rfl (lv_at hl 0 rfl) ?_
    refine lv_iconst (v := 1) hx hb dL_law_2058 (by decide) ?_
    refine lv_iadd hx hb dL_law_2059 ?_
    refine va_sld hx hb hXs hbl hbA hS (inK t1 (by omega) (by omega)) dL_law_2060 ?_
    refine W.eq (g2 := F0 m 2061 ls [.int 2, .ref h2]) (by rw [← ea1]) ?_
    refine lv_aload_n hx hb dL_law_2061 rfl (lv_at hl 3 rfl) ?_
    refine lv_iload_n hx hb dL_law_2062 rfl (lv_at hl 0 rfl) ?_
    refine lv_iconst (v := 2) hx hb dL_law_2063 (by decide) ?_
    refine lv_iadd hx hb dL_law_2064 ?_
    refine va_sld hx hb hXs hbl hbA hS (inK t2 (by omega) (by omega)) dL_law_2065 ?_
    refine W.eq (g2 := F0 m 2066 ls [.int a2, .int 2, .ref h2]) (by rw [← ea2]) ?_
    refine lv_aload_n hx hb dL_law_2066 rfl (lv_at hl 3 rfl) ?_
    refine lv_iload_n hx hb dL_law_2067 rfl (lv_at hl 0 rfl) ?_
    refine lv_iconst (v := 3) hx hb dL_law_2068 (by decide) ?_
    refine lv_iadd hx hb dL_law_2069 ?_
    refine va_sld hx hb hXs hbl hbA hS (inK t3 (by omega) (by omega)) dL_law_2070 ?_
    refine W.eq (g2 := F0 m 2071 ls [.int a3, .int a2, .int 2, .ref h2]) (by rw [← ea3]) ?_
    refine lv_i2l hx hb dL_law_2071 rfl ?_
    refine lv_topl (fun w49 ew49 => ?_)
    refine lv_bipush (v := 32) hx hb dL_law_2072 (by decide) ?_
    refine lv_lshl hx hb dL_law_2074 rfl ?_
    refine lv_topl (fun w50 ew50 => ?_)
    refine lv_aload_n hx hb dL_law_2075 rfl (lv_at hl 3 rfl) ?_
    refine lv_iload_n hx hb dL_law_2076 rfl (lv_at hl 0 rfl) ?_
    refine lv_iconst (v := 4) hx hb dL_law_2077 (by decide) ?_
    refine lv_iadd hx hb dL_law_2078 ?_
    refine va_sld hx hb hXs hbl hbA hS (inK t4 (by omega) (by omega)) dL_law_2079 ?_
    refine W.eq (g2 := F0 m 2080 ls [.int a4, .long w50, .int a2, .int 2, .ref h2]) (by rw [← ea4]) ?_
    refine lv_i2l hx hb dL_law_2080 rfl ?_
    refine lv_topl (fun w51 ew51 => ?_)
    refine lv_ldc2 hx hb hown (ht _ kl_RL_269) dL_law_2081 ?_
    refine lv_land hx hb dL_law_2084 ?_
    refine lv_topl (fun w52 ew52 => ?_)
    refine lv_lor hx hb dL_law_2085 ?_
    refine lv_topl (fun w53 ew53 => ?_)
    refine behDi (wr := (XLW cs h1 Q F A (vA B 14 (vA (B 14) 0 y47)) D)) (runVD (As := [.int 2, .int a2, .long w53]) (rest := []) ⟨hx, hb, hml, hown, ht⟩ (sX11_write l G cs h2 q2 MF MA MD MB hM.1 2 a2 w53) okV_RL_275 ⟨(Nat.le_of_ble_eq_true rfl), (Nat.le_of_ble_eq_true rfl)⟩ hK hP hD [101, 102, 103, 104, 105, 106, 107, 108, 109, 110, 111, 112, 113, 114, 115, 116, 117, 118, 119, 120] rfl (by decide +kernel) rfl 101 rfl rfl hl.1 rfl (Nat.le_of_ble_eq_true rfl) dL_law_2086 ⟨(Nat.le_of_ble_eq_true rfl), (Nat.le_of_ble_eq_true rfl)⟩) hP hD hS (fun _ h => h) [101, 102, 103, 104, 105, 106, 107, 108, 109, 110, 111, 112, 113, 114, 115, 116, 117, 118, 119, 120] [0, 1, 2, 3, 4, 5, 6, 7, 8, 9, 10, 11, 12, 13, 14, 15, 16, 17, 18, 19, 20, 21, 22, 23, 24, 25, 26, 27, 28, 29, 30, 31, 32, 33, 34, 35, 36, 37, 38, 39, 40, 41, 42, 43, 44, 45, 46, 47, 48, 49, 50, 51, 52, 53, 54, 55, 56, 57, 58, 59, 60, 61, 62, 63, 64, 65, 66, 67, 68, 69, 70, 71, 72, 73, 74, 75, 76, 77, 78, 79, 80, 81, 82, 83, 84, 85, 86, 87, 88, 89, 90, 91, 92, 93, 94, 95, 96, 97, 98, 99, 100] rfl rfl (by decide +kernel) (by decide +kernel) (fun r9 u H locs hu hP hD hS => ?_)
    obtain ⟨y55, rfl⟩ : ∃ z, z = u := ⟨_, rfl⟩
    obtain ⟨r54, rfl⟩ : ∃ z, z = r9 := ⟨_, rfl⟩
    have hr54 := hu
    have kk56 : (2 : Int32).toInt = 2 := by decide
    have hr54 : (r54.toInt = -2 ∧ ((2 : Int32).toInt < 0 ∨ 3 < (2 : Int32).toInt)) ∨ ((0 ≤ (2 : Int32).toInt ∧ (2 : Int32).toInt ≤ 3) ∧ ((MA 31) (2 : Int32).toNatClampNeg).toInt = -1 ∧ r54.toInt = -6) ∨ ((0 ≤ (2 : Int32).toInt ∧ (2 : Int32).toInt ≤ 3) ∧ ¬ ((MA 31) (2 : Int32).toNatClampNeg).toInt = -1 ∧ (a2.toInt < 0 ∨ ((MA 31) (2 : Int32).toNatClampNeg).toInt ≤ a2.toInt) ∧ r54.toInt = -7) ∨ ((0 ≤ (2 : Int32).toInt ∧ (2 : Int32).toInt ≤ 3) ∧ ¬ ((MA 31) (2 : Int32).toNatClampNeg).toInt = -1 ∧ 0 ≤ a2.toInt ∧ a2.toInt < ((MA 31) (2 : Int32).toNatClampNeg).toInt ∧ r54.toInt = 0) := hr54
    have hP : va_P G vwCl (LW cs h1 Q h2 q2 F A (vA B 14 (vA (B 14) 0 y47)) D MF MA MD (vA MB 33 y55)) H := hP
    have hD : va_D (fun q : Nat => s.heap.size ≤ q) (LW cs h1 Q h2 q2 F A (vA B 14 (vA (B 14) 0 y47)) D MF MA MD (vA MB 33 y55)) := hD
    have n31_2 : (MA 31 (2 : Int32).toNatClampNeg).toInt = (MA 31 2).toInt := congrArg (fun z => (MA 31 z).toInt) (show (2 : Int32).toNatClampNeg = 2 by decide)
    have n32_2 : (MA 32 (2 : Int32).toNatClampNeg).toInt = (MA 32 2).toInt := congrArg (fun z => (MA 32 z).toInt) (show (2 : Int32).toNatClampNeg = 2 by decide)
    have nsr_2 : ((F 14 1).toInt = 0 ∧ (MA 31 2).toInt = -1) ∨ (¬ (F 14 1).toInt = 0 ∧ (MA 31 2).toInt = (F 14 3).toInt ∧ 0 ≤ (F 14 3).toInt ∧ (MA 32 2).toInt = (F 14 2).toInt) := hR.2.2.2.2.2.1
    refine lv_pop hx hb dL_law_2089 rfl ?_
    refine lv_goto (tgt := 2156) hx hb dL_law_2090 (by decide) ?_
    exact kk F A (vA B 14 (vA (B 14) 0 y47)) D MF MA MD (vA MB 33 y55) H locs ls ⟨hX.1, hX.2.1, hX.2.2.1, hX.2.2.2.1, hX.2.2.2.2.1, hX.2.2.2.2.2.1, hX.2.2.2.2.2.2.1, hX.2.2.2.2.2.2.2.1, hX.2.2.2.2.2.2.2.2.1, hX.2.2.2.2.2.2.2.2.2.1, hX.2.2.2.2.2.2.2.2.2.2.1, hX.2.2.2.2.2.2.2.2.2.2.2.1, hX.2.2.2.2.2.2.2.2.2.2.2.2.1, hX.2.2.2.2.2.2.2.2.2.2.2.2.2.1, hX.2.2.2.2.2.2.2.2.2.2.2.2.2.2.1, hX.2.2.2.2.2.2.2.2.2.2.2.2.2.2.2.1, hX.2.2.2.2.2.2.2.2.2.2.2.2.2.2.2.2.1, hX.2.2.2.2.2.2.2.2.2.2.2.2.2.2.2.2.2.1, hX.2.2.2.2.2.2.2.2.2.2.2.2.2.2.2.2.2.2.1, hX.2.2.2.2.2.2.2.2.2.2.2.2.2.2.2.2.2.2.2.1, hX.2.2.2.2.2.2.2.2.2.2.2.2.2.2.2.2.2.2.2.2.1, hX.2.2.2.2.2.2.2.2.2.2.2.2.2.2.2.2.2.2.2.2.2.1, hX.2.2.2.2.2.2.2.2.2.2.2.2.2.2.2.2.2.2.2.2.2.2.1, hX.2.2.2.2.2.2.2.2.2.2.2.2.2.2.2.2.2.2.2.2.2.2.2.1, hX.2.2.2.2.2.2.2.2.2.2.2.2.2.2.2.2.2.2.2.2.2.2.2.2.1, hX.2.2.2.2.2.2.2.2.2.2.2.2.2.2.2.2.2.2.2.2.2.2.2.2.2.1, hX.2.2.2.2.2.2.2.2.2.2.2.2.2.2.2.2.2.2.2.2.2.2.2.2.2.2⟩ ⟨hM.1, hM.2.1, hM.2.2⟩ hR hP hD hS hl
  · refine behDi (wr := ((uX6 cs (Q 0 0) (fun _ => Q 0 1) (F 1) (A 1) (B 1) (D 1)) ++ ((uX9 cs (Q 0 1) (Q 2) (F 2) (A 2) (B 2) (D 2)) ++ ((uX3 cs (Q 0 2) (Q 3) (F 3) (A 3) (B 3) (D 3)) ++ ((uX8 cs (Q 0 3) (Q 4) (F 4) (A 4) (B 4) (D 4)) ++ ((uX3 cs (Q 4 0) (Q 5) (F 5) (A 5) (B 5) (D 5)) ++ ((uX5 cs (Q 0 6) (Q 6) (F 6) (A 6) (B 6) (D 6)) ++ ((uX5 cs (Q 0 7) (Q 7) (F 7) (A 7) (B 7) (D 7)) ++ ((uX0 cs (Q 0 8) (Q 8) (F 8) (A 8) (B 8) (D 8)) ++ ((uX1 cs (Q 0 9) (Q 9) (F 9) (A 9) (B 9) (D 9)) ++ ((uX4 cs (Q 0 10) (Q 10) (F 10) (A 10) (B 10) (D 10)) ++ ((uX2 cs (Q 0 11) (Q 11) (F 11) (A 11) (B 11) (D 11)) ++ ((uX7 cs (Q 0 20) (Q 12) (F 12) (A 12) (B 12) (D 12)) ++ ((uX7 cs (Q 0 21) (Q 13) (F 13) (A 13) (B 13) (D 13)) ++ ((uX7 cs (Q 0 22) (Q 14) (F 14) (A 14) (B 14) (D 14)) ++ ((uX8 cs (Q 0 30) (Q 16) (F 16) (A 16) (B 16) (D 16)) ++ ((uX3 cs (Q 16 0) (Q 17) (F 17) (A 17) (B 17) (D 17)) ++ ((uX8 cs (Q 0 31) (Q 18) (F 18) (A 18) (B 18) (D 18)) ++ ((uX3 cs (Q 18 0) (Q 19) (F 19) (A 19) (B 19) (D 19)) ++ ((uX8 cs (Q 0 32) (Q 20) (F 20) (A 20) (B 20) (D 20)) ++ ((uX3 cs (Q 20 0) (Q 21) (F 21) (A 21) (B 21) (D 21)) ++ ((uX5 cs (Q 8 10) (Q 22) (F 22) (A 22) (B 22) (D 22)) ++ ((uX5 cs (Q 8 11) (Q 23) (F 23) (A 23) (B 23) (D 23)) ++ ((uX5 cs (Q 8 12) (Q 24) (F 24) (A 24) (B 24) (D 24)) ++ ((uX5 cs (Q 8 13) (Q 25) (F 25) (A 25) (B 25) (D 25)) ++ ((uX5 cs (Q 8 14) (Q 26) (F 26) (A 26) (B 26) (D 26)) ++ (mS cs h2 q2 MF MA MD MB))))))))))))))))))))))))))) (runVD (As := [.int 3, .int a2, .long w5]) (rest := []) ⟨hx, hb, hml, hown, ht⟩ (sX10_write_3 l G cs h1 (Q 0) (F 0) (A 0) (B 0) (D 0) hX.1 (Q 15) (F 15) (A 15) (B 15) (D 15) hX.2.2.2.2.2.2.2.2.2.2.2.2.2.2.2.1 a2 w5) okV_RL_271 ⟨(Nat.le_of_ble_eq_true rfl), (Nat.le_of_ble_eq_true rfl)⟩ hK hP hD [0, 1, 2, 54, 55] rfl (by decide +kernel) rfl 0 rfl rfl hl.1 rfl (Nat.le_of_ble_eq_true rfl) dL_law_2051 ⟨(Nat.le_of_ble_eq_true rfl), (Nat.le_of_ble_eq_true rfl)⟩) hP hD hS (fun _ h => h) [0, 1, 2, 54, 55] [3, 4, 5, 6, 7, 8, 9, 10, 11, 12, 13, 14, 15, 16, 17, 18, 19, 20, 21, 22, 23, 24, 25, 26, 27, 28, 29, 30, 31, 32, 33, 34, 35, 36, 37, 38, 39, 40, 41, 42, 43, 44, 45, 46, 47, 48, 49, 50, 51, 52, 53, 56, 57, 58, 59, 60, 61, 62, 63, 64, 65, 66, 67, 68, 69, 70, 71, 72, 73, 74, 75, 76, 77, 78, 79, 80, 81, 82, 83, 84, 85, 86, 87, 88, 89, 90, 91, 92, 93, 94, 95, 96, 97, 98, 99, 100, 101, 102, 103, 104, 105, 106, 107, 108, 109, 110, 111, 112, 113, 114, 115, 116, 117, 118, 119, 120] rfl rfl (by decide +kernel) (by decide +kernel) (fun r9 u H locs hu hP hD hS => ?_)
    obtain ⟨y58, rfl⟩ : ∃ z, z = u := ⟨_, rfl⟩
    obtain ⟨r57, rfl⟩ : ∃ z, z = r9 := ⟨_, rfl⟩
    have hr57 := hu
    have kk59 : (3 : Int32).toInt = 3 := by decide
    have hr57 : ((F 15 1).toInt = 0 ∧ r57.toInt = -6) ∨ (¬ (F 15 1).toInt = 0 ∧ (a2.toInt < 0 ∨ (F 15 3).toInt ≤ a2.toInt) ∧ r57.toInt = -7) ∨ (¬ (F 15 1).toInt = 0 ∧ 0 ≤ a2.toInt ∧ a2.toInt < (F 15 3).toInt ∧ r57.toInt = 0) := hr57
    have hP : va_P G vwCl (LW cs h1 Q h2 q2 F A (vA B 15 (vA (B 15) 0 y58)) D MF MA MD MB) H := hP.sub [116, 117, 118, 0, 1, 2, 3, 4, 5, 6, 7, 8, 9, 10, 11, 12, 13, 14, 15, 16, 17, 18, 19, 20, 21, 22, 23, 24, 25, 26, 27, 28, 29, 30, 31, 32, 33, 34, 35, 36, 37, 38, 39, 40, 41, 42, 43, 44, 45, 46, 47, 48, 49, 50, 119, 120, 51, 52, 53, 54, 55, 56, 57, 58, 59, 60, 61, 62, 63, 64, 65, 66, 67, 68, 69, 70, 71, 72, 73, 74, 75, 76, 77, 78, 79, 80, 81, 82, 83, 84, 85, 86, 87, 88, 89, 90, 91, 92, 93, 94, 95, 96, 97, 98, 99, 100, 101, 102, 103, 104, 105, 106, 107, 108, 109, 110, 111, 112, 113, 114, 115] rfl
    have hD : va_D (fun q : Nat => s.heap.size ≤ q) (LW cs h1 Q h2 q2 F A (vA B 15 (vA (B 15) 0 y58)) D MF MA MD MB) := hD.sub [116, 117, 118, 0, 1, 2, 3, 4, 5, 6, 7, 8, 9, 10, 11, 12, 13, 14, 15, 16, 17, 18, 19, 20, 21, 22, 23, 24, 25, 26, 27, 28, 29, 30, 31, 32, 33, 34, 35, 36, 37, 38, 39, 40, 41, 42, 43, 44, 45, 46, 47, 48, 49, 50, 119, 120, 51, 52, 53, 54, 55, 56, 57, 58, 59, 60, 61, 62, 63, 64, 65, 66, 67, 68, 69, 70, 71, 72, 73, 74, 75, 76, 77, 78, 79, 80, 81, 82, 83, 84, 85, 86, 87, 88, 89, 90, 91, 92, 93, 94, 95, 96, 97, 98, 99, 100, 101, 102, 103, 104, 105, 106, 107, 108, 109, 110, 111, 112, 113, 114, 115] (by decide +kernel) rfl
    refine lv_pop hx hb dL_law_2054 rfl ?_
    refine lv_aload_n hx hb dL_law_2055 rfl (lv_at hl 1 rfl) ?_
    refine lv_aload_n hx hb dL_law_2056 rfl (lv_at hl 3 rfl) ?_
    refine lv_iload_n hx hb dL_law_2057 rfl (lv_at hl 0 rfl) ?_
    refine lv_iconst (v := 1) hx hb dL_law_2058 (by decide) ?_
    refine lv_iadd hx hb dL_law_2059 ?_
    refine va_sld hx hb hXs hbl hbA hS (inK t1 (by omega) (by omega)) dL_law_2060 ?_
    refine W.eq (g2 := F0 m 2061 ls [.int 3, .ref h2]) (by rw [← ea1]) ?_
    refine lv_aload_n hx hb dL_law_2061 rfl (lv_at hl 3 rfl) ?_
    refine lv_iload_n hx hb dL_law_2062 rfl (lv_at hl 0 rfl) ?_
    refine lv_iconst (v := 2) hx hb dL_law_2063 (by decide) ?_
    refine lv_iadd hx hb dL_law_2064 ?_
    refine va_sld hx hb hXs hbl hbA hS (inK t2 (by omega) (by omega)) dL_law_2065 ?_
    refine W.eq (g2 := F0 m 2066 ls [.int a2, .int 3, .ref h2]) (by rw [← ea2]) ?_
    refine lv_aload_n hx hb dL_law_2066 rfl (lv_at hl 3 rfl) ?_
    refine lv_iload_n hx hb dL_law_2067 rfl (lv_at hl 0 rfl) ?_
    refine lv_iconst (v := 3) hx hb dL_law_2068 (by decide) ?_
    refine lv_iadd hx hb dL_law_2069 ?_
    refine va_sld hx hb hXs hbl hbA hS (inK t3 (by omega) (by omega)) dL_law_2070 ?_
    refine W.eq (g2 := F0 m 2071 ls [.int a3, .int a2, .int 3, .ref h2]) (by rw [← ea3]) ?_
    refine lv_i2l hx hb dL_law_2071 rfl ?_
    refine lv_topl (fun w60 ew60 => ?_)
    refine lv_bipush (v := 32) hx hb dL_law_2072 (by decide) ?_
    refine lv_lshl hx hb dL_law_2074 rfl ?_
    refine lv_topl (fun w61 ew61 => ?_)
    refine lv_aload_n hx hb dL_law_2075 rfl (lv_at hl 3 rfl) ?_
    refine lv_iload_n hx hb dL_law_2076 rfl (lv_at hl 0 rfl) ?_
    refine lv_iconst (v := 4) hx hb dL_law_2077 (by decide) ?_
    refine lv_iadd hx hb dL_law_2078 ?_
    refine va_sld hx hb hXs hbl hbA hS (inK t4 (by omega) (by omega)) dL_law_2079 ?_
    refine W.eq (g2 := F0 m 2080 ls [.int a4, .long w61, .int a2, .int 3, .ref h2]) (by rw [← ea4]) ?_
    refine lv_i2l hx hb dL_law_2080 rfl ?_
    refine lv_topl (fun w62 ew62 => ?_)
    refine lv_ldc2 hx hb hown (ht _ kl_RL_269) dL_law_2081 ?_
    refine lv_land hx hb dL_law_2084 ?_
    refine lv_topl (fun w63 ew63 => ?_)
    refine lv_lor hx hb dL_law_2085 ?_
    refine lv_topl (fun w64 ew64 => ?_)
    refine behDi (wr := (XLW cs h1 Q F A (vA B 15 (vA (B 15) 0 y58)) D)) (runVD (As := [.int 3, .int a2, .long w64]) (rest := []) ⟨hx, hb, hml, hown, ht⟩ (sX11_write l G cs h2 q2 MF MA MD MB hM.1 3 a2 w64) okV_RL_275 ⟨(Nat.le_of_ble_eq_true rfl), (Nat.le_of_ble_eq_true rfl)⟩ hK hP hD [101, 102, 103, 104, 105, 106, 107, 108, 109, 110, 111, 112, 113, 114, 115, 116, 117, 118, 119, 120] rfl (by decide +kernel) rfl 101 rfl rfl hl.1 rfl (Nat.le_of_ble_eq_true rfl) dL_law_2086 ⟨(Nat.le_of_ble_eq_true rfl), (Nat.le_of_ble_eq_true rfl)⟩) hP hD hS (fun _ h => h) [101, 102, 103, 104, 105, 106, 107, 108, 109, 110, 111, 112, 113, 114, 115, 116, 117, 118, 119, 120] [0, 1, 2, 3, 4, 5, 6, 7, 8, 9, 10, 11, 12, 13, 14, 15, 16, 17, 18, 19, 20, 21, 22, 23, 24, 25, 26, 27, 28, 29, 30, 31, 32, 33, 34, 35, 36, 37, 38, 39, 40, 41, 42, 43, 44, 45, 46, 47, 48, 49, 50, 51, 52, 53, 54, 55, 56, 57, 58, 59, 60, 61, 62, 63, 64, 65, 66, 67, 68, 69, 70, 71, 72, 73, 74, 75, 76, 77, 78, 79, 80, 81, 82, 83, 84, 85, 86, 87, 88, 89, 90, 91, 92, 93, 94, 95, 96, 97, 98, 99, 100] rfl rfl (by decide +kernel) (by decide +kernel) (fun r9 u H locs hu hP hD hS => ?_)
    obtain ⟨y66, rfl⟩ : ∃ z, z = u := ⟨_, rfl⟩
    obtain ⟨r65, rfl⟩ : ∃ z, z = r9 := ⟨_, rfl⟩
    have hr65 := hu
    have kk67 : (3 : Int32).toInt = 3 := by decide
    have hr65 : (r65.toInt = -2 ∧ ((3 : Int32).toInt < 0 ∨ 3 < (3 : Int32).toInt)) ∨ ((0 ≤ (3 : Int32).toInt ∧ (3 : Int32).toInt ≤ 3) ∧ ((MA 31) (3 : Int32).toNatClampNeg).toInt = -1 ∧ r65.toInt = -6) ∨ ((0 ≤ (3 : Int32).toInt ∧ (3 : Int32).toInt ≤ 3) ∧ ¬ ((MA 31) (3 : Int32).toNatClampNeg).toInt = -1 ∧ (a2.toInt < 0 ∨ ((MA 31) (3 : Int32).toNatClampNeg).toInt ≤ a2.toInt) ∧ r65.toInt = -7) ∨ ((0 ≤ (3 : Int32).toInt ∧ (3 : Int32).toInt ≤ 3) ∧ ¬ ((MA 31) (3 : Int32).toNatClampNeg).toInt = -1 ∧ 0 ≤ a2.toInt ∧ a2.toInt < ((MA 31) (3 : Int32).toNatClampNeg).toInt ∧ r65.toInt = 0) := hr65
    have hP : va_P G vwCl (LW cs h1 Q h2 q2 F A (vA B 15 (vA (B 15) 0 y58)) D MF MA MD (vA MB 33 y66)) H := hP
    have hD : va_D (fun q : Nat => s.heap.size ≤ q) (LW cs h1 Q h2 q2 F A (vA B 15 (vA (B 15) 0 y58)) D MF MA MD (vA MB 33 y66)) := hD
    have n31_3 : (MA 31 (3 : Int32).toNatClampNeg).toInt = (MA 31 3).toInt := congrArg (fun z => (MA 31 z).toInt) (show (3 : Int32).toNatClampNeg = 3 by decide)
    have n32_3 : (MA 32 (3 : Int32).toNatClampNeg).toInt = (MA 32 3).toInt := congrArg (fun z => (MA 32 z).toInt) (show (3 : Int32).toNatClampNeg = 3 by decide)
    have nsr_3 : ((F 15 1).toInt = 0 ∧ (MA 31 3).toInt = -1) ∨ (¬ (F 15 1).toInt = 0 ∧ (MA 31 3).toInt = (F 15 3).toInt ∧ 0 ≤ (F 15 3).toInt ∧ (MA 32 3).toInt = (F 15 2).toInt) := hR.2.2.2.2.2.2
    refine lv_pop hx hb dL_law_2089 rfl ?_
    refine lv_goto (tgt := 2156) hx hb dL_law_2090 (by decide) ?_
    exact kk F A (vA B 15 (vA (B 15) 0 y58)) D MF MA MD (vA MB 33 y66) H locs ls ⟨hX.1, hX.2.1, hX.2.2.1, hX.2.2.2.1, hX.2.2.2.2.1, hX.2.2.2.2.2.1, hX.2.2.2.2.2.2.1, hX.2.2.2.2.2.2.2.1, hX.2.2.2.2.2.2.2.2.1, hX.2.2.2.2.2.2.2.2.2.1, hX.2.2.2.2.2.2.2.2.2.2.1, hX.2.2.2.2.2.2.2.2.2.2.2.1, hX.2.2.2.2.2.2.2.2.2.2.2.2.1, hX.2.2.2.2.2.2.2.2.2.2.2.2.2.1, hX.2.2.2.2.2.2.2.2.2.2.2.2.2.2.1, hX.2.2.2.2.2.2.2.2.2.2.2.2.2.2.2.1, hX.2.2.2.2.2.2.2.2.2.2.2.2.2.2.2.2.1, hX.2.2.2.2.2.2.2.2.2.2.2.2.2.2.2.2.2.1, hX.2.2.2.2.2.2.2.2.2.2.2.2.2.2.2.2.2.2.1, hX.2.2.2.2.2.2.2.2.2.2.2.2.2.2.2.2.2.2.2.1, hX.2.2.2.2.2.2.2.2.2.2.2.2.2.2.2.2.2.2.2.2.1, hX.2.2.2.2.2.2.2.2.2.2.2.2.2.2.2.2.2.2.2.2.2.1, hX.2.2.2.2.2.2.2.2.2.2.2.2.2.2.2.2.2.2.2.2.2.2.1, hX.2.2.2.2.2.2.2.2.2.2.2.2.2.2.2.2.2.2.2.2.2.2.2.1, hX.2.2.2.2.2.2.2.2.2.2.2.2.2.2.2.2.2.2.2.2.2.2.2.2.1, hX.2.2.2.2.2.2.2.2.2.2.2.2.2.2.2.2.2.2.2.2.2.2.2.2.2.1, hX.2.2.2.2.2.2.2.2.2.2.2.2.2.2.2.2.2.2.2.2.2.2.2.2.2.2⟩ ⟨hM.1, hM.2.1, hM.2.2⟩ hR hP hD hS hl

set_option maxRecDepth 100000 in
set_option maxHeartbeats 16000000 in
theorem law_63 {p : Program} {l : Launch} {e : Env} {s : State} {m : MethodId} {below : List Frame} {meth : Method} {c : Code} {b L : Nat} {xs : Nat → Int32} {G : va_G} {cs : Nat → ClassId} {h1 : Nat} {Q : Nat → Nat → Nat} {h2 : Nat} {q2 : Nat → Nat} {sd : Nat → Nat × Nat} {i : Int32} : LCase p l e s m below meth c b G cs h1 Q h2 q2 i L xs sd 63 := by
  intro C0 hL hK hQ hQM hi0 hi6 kk F A B D MF MA MD MB H locs ls hX hM hR hP hD hS hl
  obtain ⟨hx, hb, hr, hml, hown, hts, hXs, hbl, hlocks, hgv⟩ := id C0
  have hown : s.vm.findClass RL = some m.cls := hown
  have ht : ∀ w ∈ tb, w.before #[Value.ref b] s = true := fun w h => hts w (List.mem_filter.mp h).1
  have hbA : ¬ (fun q : Nat => s.heap.size ≤ q) b := Nat.not_le.mpr hbl
  have t1 : (i + 1).toInt = i.toInt + 1 := addT rfl (by decide) (by omega)
  obtain ⟨a1, ea1⟩ : ∃ z : Int32, z = xs (i + 1).toNatClampNeg := ⟨_, rfl⟩
  have t2 : (i + 2).toInt = i.toInt + 2 := addT rfl (by decide) (by omega)
  obtain ⟨a2, ea2⟩ : ∃ z : Int32, z = xs (i + 2).toNatClampNeg := ⟨_, rfl⟩
  have t3 : (i + 3).toInt = i.toInt + 3 := addT rfl (by decide) (by omega)
  obtain ⟨a3, ea3⟩ : ∃ z : Int32, z = xs (i + 3).toNatClampNeg := ⟨_, rfl⟩
  have t4 : (i + 4).toInt = i.toInt + 4 := addT rfl (by decide) (by omega)
  obtain ⟨a4, ea4⟩ : ∃ z : Int32, z = xs (i + 4).toNatClampNeg := ⟨_, rfl⟩
  have t5 : (i + 5).toInt = i.toInt + 5 := addT rfl (by decide) (by omega)
  obtain ⟨a5, ea5⟩ : ∃ z : Int32, z = xs (i + 5).toNatClampNeg := ⟨_, rfl⟩
  refine lv_tableIn (off := 2060) (tgt := 2093) hx hb dL_law_33 (by decide) (by decide) (by decide) (by decide) ?_
  refine lv_aload_n hx hb dL_law_2093 rfl (lv_at hl 2 rfl) ?_
  refine lv_aload_n hx hb dL_law_2094 rfl (lv_at hl 3 rfl) ?_
  refine lv_iload_n hx hb dL_law_2095 rfl (lv_at hl 0 rfl) ?_
  refine lv_iconst (v := 1) hx hb dL_law_2096 (by decide) ?_
  refine lv_iadd hx hb dL_law_2097 ?_
  refine va_sld hx hb hXs hbl hbA hS (inK t1 (by omega) (by omega)) dL_law_2098 ?_
  refine W.eq (g2 := F0 m 2099 ls [.int a1, .ref h1]) (by rw [← ea1]) ?_
  refine lv_aload_n hx hb dL_law_2099 rfl (lv_at hl 3 rfl) ?_
  refine lv_iload_n hx hb dL_law_2100 rfl (lv_at hl 0 rfl) ?_
  refine lv_iconst (v := 2) hx hb dL_law_2101 (by decide) ?_
  refine lv_iadd hx hb dL_law_2102 ?_
  refine va_sld hx hb hXs hbl hbA hS (inK t2 (by omega) (by omega)) dL_law_2103 ?_
  refine W.eq (g2 := F0 m 2104 ls [.int a2, .int a1, .ref h1]) (by rw [← ea2]) ?_
  refine lv_aload_n hx hb dL_law_2104 rfl (lv_at hl 3 rfl) ?_
  refine lv_iload_n hx hb dL_law_2105 rfl (lv_at hl 0 rfl) ?_
  refine lv_iconst (v := 3) hx hb dL_law_2106 (by decide) ?_
  refine lv_iadd hx hb dL_law_2107 ?_
  refine va_sld hx hb hXs hbl hbA hS (inK t3 (by omega) (by omega)) dL_law_2108 ?_
  refine W.eq (g2 := F0 m 2109 ls [.int a3, .int a2, .int a1, .ref h1]) (by rw [← ea3]) ?_
  refine lv_aload_n hx hb dL_law_2109 rfl (lv_at hl 3 rfl) ?_
  refine lv_iload_n hx hb dL_law_2110 rfl (lv_at hl 0 rfl) ?_
  refine lv_iconst (v := 4) hx hb dL_law_2111 (by decide) ?_
  refine lv_iadd hx hb dL_law_2112 ?_
  refine va_sld hx hb hXs hbl hbA hS (inK t4 (by omega) (by omega)) dL_law_2113 ?_
  refine W.eq (g2 := F0 m 2114 ls [.int a4, .int a3, .int a2, .int a1, .ref h1]) (by rw [← ea4]) ?_
  refine lv_aload_n hx hb dL_law_2114 rfl (lv_at hl 3 rfl) ?_
  refine lv_iload_n hx hb dL_law_2115 rfl (lv_at hl 0 rfl) ?_
  refine lv_iconst (v := 5) hx hb dL_law_2116 (by decide) ?_
  refine lv_iadd hx hb dL_law_2117 ?_
  refine va_sld hx hb hXs hbl hbA hS (inK t5 (by omega) (by omega)) dL_law_2118 ?_
  refine W.eq (g2 := F0 m 2119 ls [.int a5, .int a4, .int a3, .int a2, .int a1, .ref h1]) (by rw [← ea5]) ?_
  rcases csN4 a1 with hN | hN | rfl | rfl | rfl | rfl
  · rcases csN4 a3 with hN | hN | rfl | rfl | rfl | rfl
    · have bb1 := i32b a1
      refine behR (runVP (As := [.int a1, .int a2, .int a3, .int a4, .int a5]) (rest := []) ⟨hx, hb, hml, hown, ht⟩ (sX10_paste_lo l G cs h1 (Q 0) (F 0) (A 0) (B 0) (D 0) hX.1 a1 a2 a3 a4 a5 (by omega)) okV_RL_276 ⟨(Nat.le_of_ble_eq_true rfl), (Nat.le_of_ble_eq_true rfl)⟩ hK hP [0, 1, 2] rfl 0 rfl rfl hl.1 rfl (Nat.le_of_ble_eq_true rfl) dL_law_2119 ⟨(Nat.le_of_ble_eq_true rfl), (Nat.le_of_ble_eq_true rfl)⟩) hP hS (fun _ h => h) (fun r2 H locs hr2 hP hS => ?_)
      have hr2 : r2.toInt = -2 := hr2
      refine lv_pop hx hb dL_law_2122 rfl ?_
      refine lv_aload_n hx hb dL_law_2123 rfl (lv_at hl 1 rfl) ?_
      refine lv_aload_n hx hb dL_law_2124 rfl (lv_at hl 3 rfl) ?_
      refine lv_iload_n hx hb dL_law_2125 rfl (lv_at hl 0 rfl) ?_
      refine lv_iconst (v := 1) hx hb dL_law_2126 (by decide) ?_
      refine lv_iadd hx hb dL_law_2127 ?_
      refine va_sld hx hb hXs hbl hbA hS (inK t1 (by omega) (by omega)) dL_law_2128 ?_
      refine W.eq (g2 := F0 m 2129 ls [.int a1, .ref h2]) (by rw [← ea1]) ?_
      refine lv_aload_n hx hb dL_law_2129 rfl (lv_at hl 3 rfl) ?_
      refine lv_iload_n hx hb dL_law_2130 rfl (lv_at hl 0 rfl) ?_
      refine lv_iconst (v := 2) hx hb dL_law_2131 (by decide) ?_
      refine lv_iadd hx hb dL_law_2132 ?_
      refine va_sld hx hb hXs hbl hbA hS (inK t2 (by omega) (by omega)) dL_law_2133 ?_
      refine W.eq (g2 := F0 m 2134 ls [.int a2, .int a1, .ref h2]) (by rw [← ea2]) ?_
      refine lv_aload_n hx hb dL_law_2134 rfl (lv_at hl 3 rfl) ?_
      refine lv_iload_n hx hb dL_law_2135 rfl (lv_at hl 0 rfl) ?_
      refine lv_iconst (v := 3) hx hb dL_law_2136 (by decide) ?_
      refine lv_iadd hx hb dL_law_2137 ?_
      refine va_sld hx hb hXs hbl hbA hS (inK t3 (by omega) (by omega)) dL_law_2138 ?_
      refine W.eq (g2 := F0 m 2139 ls [.int a3, .int a2, .int a1, .ref h2]) (by rw [← ea3]) ?_
      refine lv_aload_n hx hb dL_law_2139 rfl (lv_at hl 3 rfl) ?_
      refine lv_iload_n hx hb dL_law_2140 rfl (lv_at hl 0 rfl) ?_
      refine lv_iconst (v := 4) hx hb dL_law_2141 (by decide) ?_
      refine lv_iadd hx hb dL_law_2142 ?_
      refine va_sld hx hb hXs hbl hbA hS (inK t4 (by omega) (by omega)) dL_law_2143 ?_
      refine W.eq (g2 := F0 m 2144 ls [.int a4, .int a3, .int a2, .int a1, .ref h2]) (by rw [← ea4]) ?_
      refine lv_aload_n hx hb dL_law_2144 rfl (lv_at hl 3 rfl) ?_
      refine lv_iload_n hx hb dL_law_2145 rfl (lv_at hl 0 rfl) ?_
      refine lv_iconst (v := 5) hx hb dL_law_2146 (by decide) ?_
      refine lv_iadd hx hb dL_law_2147 ?_
      refine va_sld hx hb hXs hbl hbA hS (inK t5 (by omega) (by omega)) dL_law_2148 ?_
      refine W.eq (g2 := F0 m 2149 ls [.int a5, .int a4, .int a3, .int a2, .int a1, .ref h2]) (by rw [← ea5]) ?_
      refine behDi (wr := (XLW cs h1 Q F A B D)) (runVD (As := [.int a1, .int a2, .int a3, .int a4, .int a5]) (rest := []) ⟨hx, hb, hml, hown, ht⟩ (sX11_paste l G cs h2 q2 MF MA MD MB hM.1 a1 a2 a3 a4 a5) okV_RL_279 ⟨(Nat.le_of_ble_eq_true rfl), (Nat.le_of_ble_eq_true rfl)⟩ hK hP hD [101, 102, 103, 104, 105, 106, 107, 108, 109, 110, 111, 112, 113, 114, 115, 116, 117, 118, 119, 120] rfl (by decide +kernel) rfl 101 rfl rfl hl.1 rfl (Nat.le_of_ble_eq_true rfl) dL_law_2149 ⟨(Nat.le_of_ble_eq_true rfl), (Nat.le_of_ble_eq_true rfl)⟩) hP hD hS (fun _ h => h) [101, 102, 103, 104, 105, 106, 107, 108, 109, 110, 111, 112, 113, 114, 115, 116, 117, 118, 119, 120] [0, 1, 2, 3, 4, 5, 6, 7, 8, 9, 10, 11, 12, 13, 14, 15, 16, 17, 18, 19, 20, 21, 22, 23, 24, 25, 26, 27, 28, 29, 30, 31, 32, 33, 34, 35, 36, 37, 38, 39, 40, 41, 42, 43, 44, 45, 46, 47, 48, 49, 50, 51, 52, 53, 54, 55, 56, 57, 58, 59, 60, 61, 62, 63, 64, 65, 66, 67, 68, 69, 70, 71, 72, 73, 74, 75, 76, 77, 78, 79, 80, 81, 82, 83, 84, 85, 86, 87, 88, 89, 90, 91, 92, 93, 94, 95, 96, 97, 98, 99, 100] rfl rfl (by decide +kernel) (by decide +kernel) (fun r9 u H locs hu hP hD hS => ?_)
      obtain ⟨y4, y5⟩ := u
      obtain ⟨r3, rfl⟩ : ∃ z, z = r9 := ⟨_, rfl⟩
      have hr3 := hu
      have hr3 : (r3.toInt = -2 ∧ (a1.toInt < 0 ∨ 3 < a1.toInt ∨ a3.toInt < 0 ∨ 3 < a3.toInt)) ∨ ((0 ≤ a1.toInt ∧ a1.toInt ≤ 3) ∧ (0 ≤ a3.toInt ∧ a3.toInt ≤ 3) ∧ (((MA 31) a1.toNatClampNeg).toInt = -1 ∨ ((MA 31) a3.toNatClampNeg).toInt = -1) ∧ r3.toInt = -6) ∨ ((0 ≤ a1.toInt ∧ a1.toInt ≤ 3) ∧ (0 ≤ a3.toInt ∧ a3.toInt ≤ 3) ∧ ¬ ((MA 31) a1.toNatClampNeg).toInt = -1 ∧ ¬ ((MA 31) a3.toNatClampNeg).toInt = -1 ∧ ¬ ((MA 32) a1.toNatClampNeg).toInt = ((MA 32) a3.toNatClampNeg).toInt ∧ r3.toInt = -8) ∨ ((0 ≤ a1.toInt ∧ a1.toInt ≤ 3) ∧ (0 ≤ a3.toInt ∧ a3.toInt ≤ 3) ∧ ¬ ((MA 31) a1.toNatClampNeg).toInt = -1 ∧ ¬ ((MA 31) a3.toNatClampNeg).toInt = -1 ∧ ((MA 32) a1.toNatClampNeg).toInt = ((MA 32) a3.toNatClampNeg).toInt ∧ (a2.toInt < 0 ∨ a4.toInt < 0 ∨ a5.toInt < 0 ∨ ((MA 31) a1.toNatClampNeg).toInt < a2.toInt + a5.toInt ∨ ((MA 31) a3.toNatClampNeg).toInt < a4.toInt + a5.toInt) ∧ r3.toInt = -7) ∨ ((0 ≤ a1.toInt ∧ a1.toInt ≤ 3) ∧ (0 ≤ a3.toInt ∧ a3.toInt ≤ 3) ∧ ¬ ((MA 31) a1.toNatClampNeg).toInt = -1 ∧ ¬ ((MA 31) a3.toNatClampNeg).toInt = -1 ∧ ((MA 32) a1.toNatClampNeg).toInt = ((MA 32) a3.toNatClampNeg).toInt ∧ ¬ (a2.toInt < 0 ∨ a4.toInt < 0 ∨ a5.toInt < 0 ∨ ((MA 31) a1.toNatClampNeg).toInt < a2.toInt + a5.toInt ∨ ((MA 31) a3.toNatClampNeg).toInt < a4.toInt + a5.toInt) ∧ r3.toInt = 0) := hr3
      have hP : va_P G vwCl (LW cs h1 Q h2 q2 F A B D MF MA MD (vA (vA MB 33 y4) 34 y5)) H := hP
      have hD : va_D (fun q : Nat => s.heap.size ≤ q) (LW cs h1 Q h2 q2 F A B D MF MA MD (vA (vA MB 33 y4) 34 y5)) := hD
      refine lv_pop hx hb dL_law_2152 rfl ?_
      refine lv_goto (tgt := 2156) hx hb dL_law_2153 (by decide) ?_
      exact kk F A B D MF MA MD (vA (vA MB 33 y4) 34 y5) H locs ls ⟨hX.1, hX.2.1, hX.2.2.1, hX.2.2.2.1, hX.2.2.2.2.1, hX.2.2.2.2.2.1, hX.2.2.2.2.2.2.1, hX.2.2.2.2.2.2.2.1, hX.2.2.2.2.2.2.2.2.1, hX.2.2.2.2.2.2.2.2.2.1, hX.2.2.2.2.2.2.2.2.2.2.1, hX.2.2.2.2.2.2.2.2.2.2.2.1, hX.2.2.2.2.2.2.2.2.2.2.2.2.1, hX.2.2.2.2.2.2.2.2.2.2.2.2.2.1, hX.2.2.2.2.2.2.2.2.2.2.2.2.2.2.1, hX.2.2.2.2.2.2.2.2.2.2.2.2.2.2.2.1, hX.2.2.2.2.2.2.2.2.2.2.2.2.2.2.2.2.1, hX.2.2.2.2.2.2.2.2.2.2.2.2.2.2.2.2.2.1, hX.2.2.2.2.2.2.2.2.2.2.2.2.2.2.2.2.2.2.1, hX.2.2.2.2.2.2.2.2.2.2.2.2.2.2.2.2.2.2.2.1, hX.2.2.2.2.2.2.2.2.2.2.2.2.2.2.2.2.2.2.2.2.1, hX.2.2.2.2.2.2.2.2.2.2.2.2.2.2.2.2.2.2.2.2.2.1, hX.2.2.2.2.2.2.2.2.2.2.2.2.2.2.2.2.2.2.2.2.2.2.1, hX.2.2.2.2.2.2.2.2.2.2.2.2.2.2.2.2.2.2.2.2.2.2.2.1, hX.2.2.2.2.2.2.2.2.2.2.2.2.2.2.2.2.2.2.2.2.2.2.2.2.1, hX.2.2.2.2.2.2.2.2.2.2.2.2.2.2.2.2.2.2.2.2.2.2.2.2.2.1, hX.2.2.2.2.2.2.2.2.2.2.2.2.2.2.2.2.2.2.2.2.2.2.2.2.2.2⟩ ⟨hM.1, hM.2.1, hM.2.2⟩ hR hP hD hS hl
    · have bb6 := i32b a1
      refine behR (runVP (As := [.int a1, .int a2, .int a3, .int a4, .int a5]) (rest := []) ⟨hx, hb, hml, hown, ht⟩ (sX10_paste_lo l G cs h1 (Q 0) (F 0) (A 0) (B 0) (D 0) hX.1 a1 a2 a3 a4 a5 (by omega)) okV_RL_276 ⟨(Nat.le_of_ble_eq_true rfl), (Nat.le_of_ble_eq_true rfl)⟩ hK hP [0, 1, 2] rfl 0 rfl rfl hl.1 rfl (Nat.le_of_ble_eq_true rfl) dL_law_2119 ⟨(Nat.le_of_ble_eq_true rfl), (Nat.le_of_ble_eq_true rfl)⟩) hP hS (fun _ h => h) (fun r7 H locs hr7 hP hS => ?_)
      have hr7 : r7.toInt = -2 := hr7
      refine lv_pop hx hb dL_law_2122 rfl ?_
      refine lv_aload_n hx hb dL_law_2123 rfl (lv_at hl 1 rfl) ?_
      refine lv_aload_n hx hb dL_law_2124 rfl (lv_at hl 3 rfl) ?_
      refine lv_iload_n hx hb dL_law_2125 rfl (lv_at hl 0 rfl) ?_
      refine lv_iconst (v := 1) hx hb dL_law_2126 (by decide) ?_
      refine lv_iadd hx hb dL_law_2127 ?_
      refine va_sld hx hb hXs hbl hbA hS (inK t1 (by omega) (by omega)) dL_law_2128 ?_
      refine W.eq (g2 := F0 m 2129 ls [.int a1, .ref h2]) (by rw [← ea1]) ?_
      refine lv_aload_n hx hb dL_law_2129 rfl (lv_at hl 3 rfl) ?_
      refine lv_iload_n hx hb dL_law_2130 rfl (lv_at hl 0 rfl) ?_
      refine lv_iconst (v := 2) hx hb dL_law_2131 (by decide) ?_
      refine lv_iadd hx hb dL_law_2132 ?_
      refine va_sld hx hb hXs hbl hbA hS (inK t2 (by omega) (by omega)) dL_law_2133 ?_
      refine W.eq (g2 := F0 m 2134 ls [.int a2, .int a1, .ref h2]) (by rw [← ea2]) ?_
      refine lv_aload_n hx hb dL_law_2134 rfl (lv_at hl 3 rfl) ?_
      refine lv_iload_n hx hb dL_law_2135 rfl (lv_at hl 0 rfl) ?_
      refine lv_iconst (v := 3) hx hb dL_law_2136 (by decide) ?_
      refine lv_iadd hx hb dL_law_2137 ?_
      refine va_sld hx hb hXs hbl hbA hS (inK t3 (by omega) (by omega)) dL_law_2138 ?_
      refine W.eq (g2 := F0 m 2139 ls [.int a3, .int a2, .int a1, .ref h2]) (by rw [← ea3]) ?_
      refine lv_aload_n hx hb dL_law_2139 rfl (lv_at hl 3 rfl) ?_
      refine lv_iload_n hx hb dL_law_2140 rfl (lv_at hl 0 rfl) ?_
      refine lv_iconst (v := 4) hx hb dL_law_2141 (by decide) ?_
      refine lv_iadd hx hb dL_law_2142 ?_
      refine va_sld hx hb hXs hbl hbA hS (inK t4 (by omega) (by omega)) dL_law_2143 ?_
      refine W.eq (g2 := F0 m 2144 ls [.int a4, .int a3, .int a2, .int a1, .ref h2]) (by rw [← ea4]) ?_
      refine lv_aload_n hx hb dL_law_2144 rfl (lv_at hl 3 rfl) ?_
      refine lv_iload_n hx hb dL_law_2145 rfl (lv_at hl 0 rfl) ?_
      refine lv_iconst (v := 5) hx hb dL_law_2146 (by decide) ?_
      refine lv_iadd hx hb dL_law_2147 ?_
      refine va_sld hx hb hXs hbl hbA hS (inK t5 (by omega) (by omega)) dL_law_2148 ?_
      refine W.eq (g2 := F0 m 2149 ls [.int a5, .int a4, .int a3, .int a2, .int a1, .ref h2]) (by rw [← ea5]) ?_
      refine behDi (wr := (XLW cs h1 Q F A B D)) (runVD (As := [.int a1, .int a2, .int a3, .int a4, .int a5]) (rest := []) ⟨hx, hb, hml, hown, ht⟩ (sX11_paste l G cs h2 q2 MF MA MD MB hM.1 a1 a2 a3 a4 a5) okV_RL_279 ⟨(Nat.le_of_ble_eq_true rfl), (Nat.le_of_ble_eq_true rfl)⟩ hK hP hD [101, 102, 103, 104, 105, 106, 107, 108, 109, 110, 111, 112, 113, 114, 115, 116, 117, 118, 119, 120] rfl (by decide +kernel) rfl 101 rfl rfl hl.1 rfl (Nat.le_of_ble_eq_true rfl) dL_law_2149 ⟨(Nat.le_of_ble_eq_true rfl), (Nat.le_of_ble_eq_true rfl)⟩) hP hD hS (fun _ h => h) [101, 102, 103, 104, 105, 106, 107, 108, 109, 110, 111, 112, 113, 114, 115, 116, 117, 118, 119, 120] [0, 1, 2, 3, 4, 5, 6, 7, 8, 9, 10, 11, 12, 13, 14, 15, 16, 17, 18, 19, 20, 21, 22, 23, 24, 25, 26, 27, 28, 29, 30, 31, 32, 33, 34, 35, 36, 37, 38, 39, 40, 41, 42, 43, 44, 45, 46, 47, 48, 49, 50, 51, 52, 53, 54, 55, 56, 57, 58, 59, 60, 61, 62, 63, 64, 65, 66, 67, 68, 69, 70, 71, 72, 73, 74, 75, 76, 77, 78, 79, 80, 81, 82, 83, 84, 85, 86, 87, 88, 89, 90, 91, 92, 93, 94, 95, 96, 97, 98, 99, 100] rfl rfl (by decide +kernel) (by decide +kernel) (fun r9 u H locs hu hP hD hS => ?_)
      obtain ⟨y9, y10⟩ := u
      obtain ⟨r8, rfl⟩ : ∃ z, z = r9 := ⟨_, rfl⟩
      have hr8 := hu
      have hr8 : (r8.toInt = -2 ∧ (a1.toInt < 0 ∨ 3 < a1.toInt ∨ a3.toInt < 0 ∨ 3 < a3.toInt)) ∨ ((0 ≤ a1.toInt ∧ a1.toInt ≤ 3) ∧ (0 ≤ a3.toInt ∧ a3.toInt ≤ 3) ∧ (((MA 31) a1.toNatClampNeg).toInt = -1 ∨ ((MA 31) a3.toNatClampNeg).toInt = -1) ∧ r8.toInt = -6) ∨ ((0 ≤ a1.toInt ∧ a1.toInt ≤ 3) ∧ (0 ≤ a3.toInt ∧ a3.toInt ≤ 3) ∧ ¬ ((MA 31) a1.toNatClampNeg).toInt = -1 ∧ ¬ ((MA 31) a3.toNatClampNeg).toInt = -1 ∧ ¬ ((MA 32) a1.toNatClampNeg).toInt = ((MA 32) a3.toNatClampNeg).toInt ∧ r8.toInt = -8) ∨ ((0 ≤ a1.toInt ∧ a1.toInt ≤ 3) ∧ (0 ≤ a3.toInt ∧ a3.toInt ≤ 3) ∧ ¬ ((MA 31) a1.toNatClampNeg).toInt = -1 ∧ ¬ ((MA 31) a3.toNatClampNeg).toInt = -1 ∧ ((MA 32) a1.toNatClampNeg).toInt = ((MA 32) a3.toNatClampNeg).toInt ∧ (a2.toInt < 0 ∨ a4.toInt < 0 ∨ a5.toInt < 0 ∨ ((MA 31) a1.toNatClampNeg).toInt < a2.toInt + a5.toInt ∨ ((MA 31) a3.toNatClampNeg).toInt < a4.toInt + a5.toInt) ∧ r8.toInt = -7) ∨ ((0 ≤ a1.toInt ∧ a1.toInt ≤ 3) ∧ (0 ≤ a3.toInt ∧ a3.toInt ≤ 3) ∧ ¬ ((MA 31) a1.toNatClampNeg).toInt = -1 ∧ ¬ ((MA 31) a3.toNatClampNeg).toInt = -1 ∧ ((MA 32) a1.toNatClampNeg).toInt = ((MA 32) a3.toNatClampNeg).toInt ∧ ¬ (a2.toInt < 0 ∨ a4.toInt < 0 ∨ a5.toInt < 0 ∨ ((MA 31) a1.toNatClampNeg).toInt < a2.toInt + a5.toInt ∨ ((MA 31) a3.toNatClampNeg).toInt < a4.toInt + a5.toInt) ∧ r8.toInt = 0) := hr8
      have hP : va_P G vwCl (LW cs h1 Q h2 q2 F A B D MF MA MD (vA (vA MB 33 y9) 34 y10)) H := hP
      have hD : va_D (fun q : Nat => s.heap.size ≤ q) (LW cs h1 Q h2 q2 F A B D MF MA MD (vA (vA MB 33 y9) 34 y10)) := hD
      refine lv_pop hx hb dL_law_2152 rfl ?_
      refine lv_goto (tgt := 2156) hx hb dL_law_2153 (by decide) ?_
      exact kk F A B D MF MA MD (vA (vA MB 33 y9) 34 y10) H locs ls ⟨hX.1, hX.2.1, hX.2.2.1, hX.2.2.2.1, hX.2.2.2.2.1, hX.2.2.2.2.2.1, hX.2.2.2.2.2.2.1, hX.2.2.2.2.2.2.2.1, hX.2.2.2.2.2.2.2.2.1, hX.2.2.2.2.2.2.2.2.2.1, hX.2.2.2.2.2.2.2.2.2.2.1, hX.2.2.2.2.2.2.2.2.2.2.2.1, hX.2.2.2.2.2.2.2.2.2.2.2.2.1, hX.2.2.2.2.2.2.2.2.2.2.2.2.2.1, hX.2.2.2.2.2.2.2.2.2.2.2.2.2.2.1, hX.2.2.2.2.2.2.2.2.2.2.2.2.2.2.2.1, hX.2.2.2.2.2.2.2.2.2.2.2.2.2.2.2.2.1, hX.2.2.2.2.2.2.2.2.2.2.2.2.2.2.2.2.2.1, hX.2.2.2.2.2.2.2.2.2.2.2.2.2.2.2.2.2.2.1, hX.2.2.2.2.2.2.2.2.2.2.2.2.2.2.2.2.2.2.2.1, hX.2.2.2.2.2.2.2.2.2.2.2.2.2.2.2.2.2.2.2.2.1, hX.2.2.2.2.2.2.2.2.2.2.2.2.2.2.2.2.2.2.2.2.2.1, hX.2.2.2.2.2.2.2.2.2.2.2.2.2.2.2.2.2.2.2.2.2.2.1, hX.2.2.2.2.2.2.2.2.2.2.2.2.2.2.2.2.2.2.2.2.2.2.2.1, hX.2.2.2.2.2.2.2.2.2.2.2.2.2.2.2.2.2.2.2.2.2.2.2.2.1, hX.2.2.2.2.2.2.2.2.2.2.2.2.2.2.2.2.2.2.2.2.2.2.2.2.2.1, hX.2.2.2.2.2.2.2.2.2.2.2.2.2.2.2.2.2.2.2.2.2.2.2.2.2.2⟩ ⟨hM.1, hM.2.1, hM.2.2⟩ hR hP hD hS hl
    · have bb11 := i32b a1
      refine behR (runVP (As := [.int a1, .int a2, .int 0, .int a4, .int a5]) (rest := []) ⟨hx, hb, hml, hown, ht⟩ (sX10_paste_lo l G cs h1 (Q 0) (F 0) (A 0) (B 0) (D 0) hX.1 a1 a2 0 a4 a5 (by omega)) okV_RL_276 ⟨(Nat.le_of_ble_eq_true rfl), (Nat.le_of_ble_eq_true rfl)⟩ hK hP [0, 1, 2] rfl 0 rfl rfl hl.1 rfl (Nat.le_of_ble_eq_true rfl) dL_law_2119 ⟨(Nat.le_of_ble_eq_true rfl), (Nat.le_of_ble_eq_true rfl)⟩) hP hS (fun _ h => h) (fun r12 H locs hr12 hP hS => ?_)
      have kk13 : (0 : Int32).toInt = 0 := by decide
      have hr12 : r12.toInt = -2 := hr12
      refine lv_pop hx hb dL_law_2122 rfl ?_
      refine lv_aload_n hx hb dL_law_2123 rfl (lv_at hl 1 rfl) ?_
      refine lv_aload_n hx hb dL_law_2124 rfl (lv_at hl 3 rfl) ?_
      refine lv_iload_n hx hb dL_law_2125 rfl (lv_at hl 0 rfl) ?_
      refine lv_iconst (v := 1) hx hb dL_law_2126 (by decide) ?_
      refine lv_iadd hx hb dL_law_2127 ?_
      refine va_sld hx hb hXs hbl hbA hS (inK t1 (by omega) (by omega)) dL_law_2128 ?_
      refine W.eq (g2 := F0 m 2129 ls [.int a1, .ref h2]) (by rw [← ea1]) ?_
      refine lv_aload_n hx hb dL_law_2129 rfl (lv_at hl 3 rfl) ?_
      refine lv_iload_n hx hb dL_law_2130 rfl (lv_at hl 0 rfl) ?_
      refine lv_iconst (v := 2) hx hb dL_law_2131 (by decide) ?_
      refine lv_iadd hx hb dL_law_2132 ?_
      refine va_sld hx hb hXs hbl hbA hS (inK t2 (by omega) (by omega)) dL_law_2133 ?_
      refine W.eq (g2 := F0 m 2134 ls [.int a2, .int a1, .ref h2]) (by rw [← ea2]) ?_
      refine lv_aload_n hx hb dL_law_2134 rfl (lv_at hl 3 rfl) ?_
      refine lv_iload_n hx hb dL_law_2135 rfl (lv_at hl 0 rfl) ?_
      refine lv_iconst (v := 3) hx hb dL_law_2136 (by decide) ?_
      refine lv_iadd hx hb dL_law_2137 ?_
      refine va_sld hx hb hXs hbl hbA hS (inK t3 (by omega) (by omega)) dL_law_2138 ?_
      refine W.eq (g2 := F0 m 2139 ls [.int 0, .int a2, .int a1, .ref h2]) (by rw [← ea3]) ?_
      refine lv_aload_n hx hb dL_law_2139 rfl (lv_at hl 3 rfl) ?_
      refine lv_iload_n hx hb dL_law_2140 rfl (lv_at hl 0 rfl) ?_
      refine lv_iconst (v := 4) hx hb dL_law_2141 (by decide) ?_
      refine lv_iadd hx hb dL_law_2142 ?_
      refine va_sld hx hb hXs hbl hbA hS (inK t4 (by omega) (by omega)) dL_law_2143 ?_
      refine W.eq (g2 := F0 m 2144 ls [.int a4, .int 0, .int a2, .int a1, .ref h2]) (by rw [← ea4]) ?_
      refine lv_aload_n hx hb dL_law_2144 rfl (lv_at hl 3 rfl) ?_
      refine lv_iload_n hx hb dL_law_2145 rfl (lv_at hl 0 rfl) ?_
      refine lv_iconst (v := 5) hx hb dL_law_2146 (by decide) ?_
      refine lv_iadd hx hb dL_law_2147 ?_
      refine va_sld hx hb hXs hbl hbA hS (inK t5 (by omega) (by omega)) dL_law_2148 ?_
      refine W.eq (g2 := F0 m 2149 ls [.int a5, .int a4, .int 0, .int a2, .int a1, .ref h2]) (by rw [← ea5]) ?_
      refine behDi (wr := (XLW cs h1 Q F A B D)) (runVD (As := [.int a1, .int a2, .int 0, .int a4, .int a5]) (rest := []) ⟨hx, hb, hml, hown, ht⟩ (sX11_paste l G cs h2 q2 MF MA MD MB hM.1 a1 a2 0 a4 a5) okV_RL_279 ⟨(Nat.le_of_ble_eq_true rfl), (Nat.le_of_ble_eq_true rfl)⟩ hK hP hD [101, 102, 103, 104, 105, 106, 107, 108, 109, 110, 111, 112, 113, 114, 115, 116, 117, 118, 119, 120] rfl (by decide +kernel) rfl 101 rfl rfl hl.1 rfl (Nat.le_of_ble_eq_true rfl) dL_law_2149 ⟨(Nat.le_of_ble_eq_true rfl), (Nat.le_of_ble_eq_true rfl)⟩) hP hD hS (fun _ h => h) [101, 102, 103, 104, 105, 106, 107, 108, 109, 110, 111, 112, 113, 114, 115, 116, 117, 118, 119, 120] [0, 1, 2, 3, 4, 5, 6, 7, 8, 9, 10, 11, 12, 13, 14, 15, 16, 17, 18, 19, 20, 21, 22, 23, 24, 25, 26, 27, 28, 29, 30, 31, 32, 33, 34, 35, 36, 37, 38, 39, 40, 41, 42, 43, 44, 45, 46, 47, 48, 49, 50, 51, 52, 53, 54, 55, 56, 57, 58, 59, 60, 61, 62, 63, 64, 65, 66, 67, 68, 69, 70, 71, 72, 73, 74, 75, 76, 77, 78, 79, 80, 81, 82, 83, 84, 85, 86, 87, 88, 89, 90, 91, 92, 93, 94, 95, 96, 97, 98, 99, 100] rfl rfl (by decide +kernel) (by decide +kernel) (fun r9 u H locs hu hP hD hS => ?_)
      obtain ⟨y15, y16⟩ := u
      obtain ⟨r14, rfl⟩ : ∃ z, z = r9 := ⟨_, rfl⟩
      have hr14 := hu
      have kk17 : (0 : Int32).toInt = 0 := by decide
      have hr14 : (r14.toInt = -2 ∧ (a1.toInt < 0 ∨ 3 < a1.toInt ∨ (0 : Int32).toInt < 0 ∨ 3 < (0 : Int32).toInt)) ∨ ((0 ≤ a1.toInt ∧ a1.toInt ≤ 3) ∧ (0 ≤ (0 : Int32).toInt ∧ (0 : Int32).toInt ≤ 3) ∧ (((MA 31) a1.toNatClampNeg).toInt = -1 ∨ ((MA 31) (0 : Int32).toNatClampNeg).toInt = -1) ∧ r14.toInt = -6) ∨ ((0 ≤ a1.toInt ∧ a1.toInt ≤ 3) ∧ (0 ≤ (0 : Int32).toInt ∧ (0 : Int32).toInt ≤ 3) ∧ ¬ ((MA 31) a1.toNatClampNeg).toInt = -1 ∧ ¬ ((MA 31) (0 : Int32).toNatClampNeg).toInt = -1 ∧ ¬ ((MA 32) a1.toNatClampNeg).toInt = ((MA 32) (0 : Int32).toNatClampNeg).toInt ∧ r14.toInt = -8) ∨ ((0 ≤ a1.toInt ∧ a1.toInt ≤ 3) ∧ (0 ≤ (0 : Int32).toInt ∧ (0 : Int32).toInt ≤ 3) ∧ ¬ ((MA 31) a1.toNatClampNeg).toInt = -1 ∧ ¬ ((MA 31) (0 : Int32).toNatClampNeg).toInt = -1 ∧ ((MA 32) a1.toNatClampNeg).toInt = ((MA 32) (0 : Int32).toNatClampNeg).toInt ∧ (a2.toInt < 0 ∨ a4.toInt < 0 ∨ a5.toInt < 0 ∨ ((MA 31) a1.toNatClampNeg).toInt < a2.toInt + a5.toInt ∨ ((MA 31) (0 : Int32).toNatClampNeg).toInt < a4.toInt + a5.toInt) ∧ r14.toInt = -7) ∨ ((0 ≤ a1.toInt ∧ a1.toInt ≤ 3) ∧ (0 ≤ (0 : Int32).toInt ∧ (0 : Int32).toInt ≤ 3) ∧ ¬ ((MA 31) a1.toNatClampNeg).toInt = -1 ∧ ¬ ((MA 31) (0 : Int32).toNatClampNeg).toInt = -1 ∧ ((MA 32) a1.toNatClampNeg).toInt = ((MA 32) (0 : Int32).toNatClampNeg).toInt ∧ ¬ (a2.toInt < 0 ∨ a4.toInt < 0 ∨ a5.toInt < 0 ∨ ((MA 31) a1.toNatClampNeg).toInt < a2.toInt + a5.toInt ∨ ((MA 31) (0 : Int32).toNatClampNeg).toInt < a4.toInt + a5.toInt) ∧ r14.toInt = 0) := hr14
      have hP : va_P G vwCl (LW cs h1 Q h2 q2 F A B D MF MA MD (vA (vA MB 33 y15) 34 y16)) H := hP
      have hD : va_D (fun q : Nat => s.heap.size ≤ q) (LW cs h1 Q h2 q2 F A B D MF MA MD (vA (vA MB 33 y15) 34 y16)) := hD
      have n31_0 : (MA 31 (0 : Int32).toNatClampNeg).toInt = (MA 31 0).toInt := congrArg (fun z => (MA 31 z).toInt) (show (0 : Int32).toNatClampNeg = 0 by decide)
      have n32_0 : (MA 32 (0 : Int32).toNatClampNeg).toInt = (MA 32 0).toInt := congrArg (fun z => (MA 32 z).toInt) (show (0 : Int32).toNatClampNeg = 0 by decide)
      have nsr_0 : ((F 12 1).toInt = 0 ∧ (MA 31 0).toInt = -1) ∨ (¬ (F 12 1).toInt = 0 ∧ (MA 31 0).toInt = (F 12 3).toInt ∧ 0 ≤ (F 12 3).toInt ∧ (MA 32 0).toInt = (F 12 2).toInt) := hR.2.2.2.1
      refine lv_pop hx hb dL_law_2152 rfl ?_
      refine lv_goto (tgt := 2156) hx hb dL_law_2153 (by decide) ?_
      exact kk F A B D MF MA MD (vA (vA MB 33 y15) 34 y16) H locs ls ⟨hX.1, hX.2.1, hX.2.2.1, hX.2.2.2.1, hX.2.2.2.2.1, hX.2.2.2.2.2.1, hX.2.2.2.2.2.2.1, hX.2.2.2.2.2.2.2.1, hX.2.2.2.2.2.2.2.2.1, hX.2.2.2.2.2.2.2.2.2.1, hX.2.2.2.2.2.2.2.2.2.2.1, hX.2.2.2.2.2.2.2.2.2.2.2.1, hX.2.2.2.2.2.2.2.2.2.2.2.2.1, hX.2.2.2.2.2.2.2.2.2.2.2.2.2.1, hX.2.2.2.2.2.2.2.2.2.2.2.2.2.2.1, hX.2.2.2.2.2.2.2.2.2.2.2.2.2.2.2.1, hX.2.2.2.2.2.2.2.2.2.2.2.2.2.2.2.2.1, hX.2.2.2.2.2.2.2.2.2.2.2.2.2.2.2.2.2.1, hX.2.2.2.2.2.2.2.2.2.2.2.2.2.2.2.2.2.2.1, hX.2.2.2.2.2.2.2.2.2.2.2.2.2.2.2.2.2.2.2.1, hX.2.2.2.2.2.2.2.2.2.2.2.2.2.2.2.2.2.2.2.2.1, hX.2.2.2.2.2.2.2.2.2.2.2.2.2.2.2.2.2.2.2.2.2.1, hX.2.2.2.2.2.2.2.2.2.2.2.2.2.2.2.2.2.2.2.2.2.2.1, hX.2.2.2.2.2.2.2.2.2.2.2.2.2.2.2.2.2.2.2.2.2.2.2.1, hX.2.2.2.2.2.2.2.2.2.2.2.2.2.2.2.2.2.2.2.2.2.2.2.2.1, hX.2.2.2.2.2.2.2.2.2.2.2.2.2.2.2.2.2.2.2.2.2.2.2.2.2.1, hX.2.2.2.2.2.2.2.2.2.2.2.2.2.2.2.2.2.2.2.2.2.2.2.2.2.2⟩ ⟨hM.1, hM.2.1, hM.2.2⟩ hR hP hD hS hl
    · have bb18 := i32b a1
      refine behR (runVP (As := [.int a1, .int a2, .int 1, .int a4, .int a5]) (rest := []) ⟨hx, hb, hml, hown, ht⟩ (sX10_paste_lo l G cs h1 (Q 0) (F 0) (A 0) (B 0) (D 0) hX.1 a1 a2 1 a4 a5 (by omega)) okV_RL_276 ⟨(Nat.le_of_ble_eq_true rfl), (Nat.le_of_ble_eq_true rfl)⟩ hK hP [0, 1, 2] rfl 0 rfl rfl hl.1 rfl (Nat.le_of_ble_eq_true rfl) dL_law_2119 ⟨(Nat.le_of_ble_eq_true rfl), (Nat.le_of_ble_eq_true rfl)⟩) hP hS (fun _ h => h) (fun r19 H locs hr19 hP hS => ?_)
      have kk20 : (1 : Int32).toInt = 1 := by decide
      have hr19 : r19.toInt = -2 := hr19
      refine lv_pop hx hb dL_law_2122 rfl ?_
      refine lv_aload_n hx hb dL_law_2123 rfl (lv_at hl 1 rfl) ?_
      refine lv_aload_n hx hb dL_law_2124 rfl (lv_at hl 3 rfl) ?_
      refine lv_iload_n hx hb dL_law_2125 rfl (lv_at hl 0 rfl) ?_
      refine lv_iconst (v := 1) hx hb dL_law_2126 (by decide) ?_
      refine lv_iadd hx hb dL_law_2127 ?_
      refine va_sld hx hb hXs hbl hbA hS (inK t1 (by omega) (by omega)) dL_law_2128 ?_
      refine W.eq (g2 := F0 m 2129 ls [.int a1, .ref h2]) (by rw [← ea1]) ?_
      refine lv_aload_n hx hb dL_law_2129 rfl (lv_at hl 3 rfl) ?_
      refine lv_iload_n hx hb dL_law_2130 rfl (lv_at hl 0 rfl) ?_
      refine lv_iconst (v := 2) hx hb dL_law_2131 (by decide) ?_
      refine lv_iadd hx hb dL_law_2132 ?_
      refine va_sld hx hb hXs hbl hbA hS (inK t2 (by omega) (by omega)) dL_law_2133 ?_
      refine W.eq (g2 := F0 m 2134 ls [.int a2, .int a1, .ref h2]) (by rw [← ea2]) ?_
      refine lv_aload_n hx hb dL_law_2134 rfl (lv_at hl 3 rfl) ?_
      refine lv_iload_n hx hb dL_law_2135 rfl (lv_at hl 0 rfl) ?_
      refine lv_iconst (v := 3) hx hb dL_law_2136 (by decide) ?_
      refine lv_iadd hx hb dL_law_2137 ?_
      refine va_sld hx hb hXs hbl hbA hS (inK t3 (by omega) (by omega)) dL_law_2138 ?_
      refine W.eq (g2 := F0 m 2139 ls [.int 1, .int a2, .int a1, .ref h2]) (by rw [← ea3]) ?_
      refine lv_aload_n hx hb dL_law_2139 rfl (lv_at hl 3 rfl) ?_
      refine lv_iload_n hx hb dL_law_2140 rfl (lv_at hl 0 rfl) ?_
      refine lv_iconst (v := 4) hx hb dL_law_2141 (by decide) ?_
      refine lv_iadd hx hb dL_law_2142 ?_
      refine va_sld hx hb hXs hbl hbA hS (inK t4 (by omega) (by omega)) dL_law_2143 ?_
      refine W.eq (g2 := F0 m 2144 ls [.int a4, .int 1, .int a2, .int a1, .ref h2]) (by rw [← ea4]) ?_
      refine lv_aload_n hx hb dL_law_2144 rfl (lv_at hl 3 rfl) ?_
      refine lv_iload_n hx hb dL_law_2145 rfl (lv_at hl 0 rfl) ?_
      refine lv_iconst (v := 5) hx hb dL_law_2146 (by decide) ?_
      refine lv_iadd hx hb dL_law_2147 ?_
      refine va_sld hx hb hXs hbl hbA hS (inK t5 (by omega) (by omega)) dL_law_2148 ?_
      refine W.eq (g2 := F0 m 2149 ls [.int a5, .int a4, .int 1, .int a2, .int a1, .ref h2]) (by rw [← ea5]) ?_
      refine behDi (wr := (XLW cs h1 Q F A B D)) (runVD (As := [.int a1, .int a2, .int 1, .int a4, .int a5]) (rest := []) ⟨hx, hb, hml, hown, ht⟩ (sX11_paste l G cs h2 q2 MF MA MD MB hM.1 a1 a2 1 a4 a5) okV_RL_279 ⟨(Nat.le_of_ble_eq_true rfl), (Nat.le_of_ble_eq_true rfl)⟩ hK hP hD [101, 102, 103, 104, 105, 106, 107, 108, 109, 110, 111, 112, 113, 114, 115, 116, 117, 118, 119, 120] rfl (by decide +kernel) rfl 101 rfl rfl hl.1 rfl (Nat.le_of_ble_eq_true rfl) dL_law_2149 ⟨(Nat.le_of_ble_eq_true rfl), (Nat.le_of_ble_eq_true rfl)⟩) hP hD hS (fun _ h => h) [101, 102, 103, 104, 105, 106, 107, 108, 109, 110, 111, 112, 113, 114, 115, 116, 117, 118, 119, 120] [0, 1, 2, 3, 4, 5, 6, 7, 8, 9, 10, 11, 12, 13, 14, 15, 16, 17, 18, 19, 20, 21, 22, 23, 24, 25, 26, 27, 28, 29, 30, 31, 32, 33, 34, 35, 36, 37, 38, 39, 40, 41, 42, 43, 44, 45, 46, 47, 48, 49, 50, 51, 52, 53, 54, 55, 56, 57, 58, 59, 60, 61, 62, 63, 64, 65, 66, 67, 68, 69, 70, 71, 72, 73, 74, 75, 76, 77, 78, 79, 80, 81, 82, 83, 84, 85, 86, 87, 88, 89, 90, 91, 92, 93, 94, 95, 96, 97, 98, 99, 100] rfl rfl (by decide +kernel) (by decide +kernel) (fun r9 u H locs hu hP hD hS => ?_)
      obtain ⟨y22, y23⟩ := u
      obtain ⟨r21, rfl⟩ : ∃ z, z = r9 := ⟨_, rfl⟩
      have hr21 := hu
      have kk24 : (1 : Int32).toInt = 1 := by decide
      have hr21 : (r21.toInt = -2 ∧ (a1.toInt < 0 ∨ 3 < a1.toInt ∨ (1 : Int32).toInt < 0 ∨ 3 < (1 : Int32).toInt)) ∨ ((0 ≤ a1.toInt ∧ a1.toInt ≤ 3) ∧ (0 ≤ (1 : Int32).toInt ∧ (1 : Int32).toInt ≤ 3) ∧ (((MA 31) a1.toNatClampNeg).toInt = -1 ∨ ((MA 31) (1 : Int32).toNatClampNeg).toInt = -1) ∧ r21.toInt = -6) ∨ ((0 ≤ a1.toInt ∧ a1.toInt ≤ 3) ∧ (0 ≤ (1 : Int32).toInt ∧ (1 : Int32).toInt ≤ 3) ∧ ¬ ((MA 31) a1.toNatClampNeg).toInt = -1 ∧ ¬ ((MA 31) (1 : Int32).toNatClampNeg).toInt = -1 ∧ ¬ ((MA 32) a1.toNatClampNeg).toInt = ((MA 32) (1 : Int32).toNatClampNeg).toInt ∧ r21.toInt = -8) ∨ ((0 ≤ a1.toInt ∧ a1.toInt ≤ 3) ∧ (0 ≤ (1 : Int32).toInt ∧ (1 : Int32).toInt ≤ 3) ∧ ¬ ((MA 31) a1.toNatClampNeg).toInt = -1 ∧ ¬ ((MA 31) (1 : Int32).toNatClampNeg).toInt = -1 ∧ ((MA 32) a1.toNatClampNeg).toInt = ((MA 32) (1 : Int32).toNatClampNeg).toInt ∧ (a2.toInt < 0 ∨ a4.toInt < 0 ∨ a5.toInt < 0 ∨ ((MA 31) a1.toNatClampNeg).toInt < a2.toInt + a5.toInt ∨ ((MA 31) (1 : Int32).toNatClampNeg).toInt < a4.toInt + a5.toInt) ∧ r21.toInt = -7) ∨ ((0 ≤ a1.toInt ∧ a1.toInt ≤ 3) ∧ (0 ≤ (1 : Int32).toInt ∧ (1 : Int32).toInt ≤ 3) ∧ ¬ ((MA 31) a1.toNatClampNeg).toInt = -1 ∧ ¬ ((MA 31) (1 : Int32).toNatClampNeg).toInt = -1 ∧ ((MA 32) a1.toNatClampNeg).toInt = ((MA 32) (1 : Int32).toNatClampNeg).toInt ∧ ¬ (a2.toInt < 0 ∨ a4.toInt < 0 ∨ a5.toInt < 0 ∨ ((MA 31) a1.toNatClampNeg).toInt < a2.toInt + a5.toInt ∨ ((MA 31) (1 : Int32).toNatClampNeg).toInt < a4.toInt + a5.toInt) ∧ r21.toInt = 0) := hr21
      have hP : va_P G vwCl (LW cs h1 Q h2 q2 F A B D MF MA MD (vA (vA MB 33 y22) 34 y23)) H := hP
      have hD : va_D (fun q : Nat => s.heap.size ≤ q) (LW cs h1 Q h2 q2 F A B D MF MA MD (vA (vA MB 33 y22) 34 y23)) := hD
      have n31_1 : (MA 31 (1 : Int32).toNatClampNeg).toInt = (MA 31 1).toInt := congrArg (fun z => (MA 31 z).toInt) (show (1 : Int32).toNatClampNeg = 1 by decide)
      have n32_1 : (MA 32 (1 : Int32).toNatClampNeg).toInt = (MA 32 1).toInt := congrArg (fun z => (MA 32 z).toInt) (show (1 : Int32).toNatClampNeg = 1 by decide)
      have nsr_1 : ((F 13 1).toInt = 0 ∧ (MA 31 1).toInt = -1) ∨ (¬ (F 13 1).toInt = 0 ∧ (MA 31 1).toInt = (F 13 3).toInt ∧ 0 ≤ (F 13 3).toInt ∧ (MA 32 1).toInt = (F 13 2).toInt) := hR.2.2.2.2.1
      refine lv_pop hx hb dL_law_2152 rfl ?_
      refine lv_goto (tgt := 2156) hx hb dL_law_2153 (by decide) ?_
      exact kk F A B D MF MA MD (vA (vA MB 33 y22) 34 y23) H locs ls ⟨hX.1, hX.2.1, hX.2.2.1, hX.2.2.2.1, hX.2.2.2.2.1, hX.2.2.2.2.2.1, hX.2.2.2.2.2.2.1, hX.2.2.2.2.2.2.2.1, hX.2.2.2.2.2.2.2.2.1, hX.2.2.2.2.2.2.2.2.2.1, hX.2.2.2.2.2.2.2.2.2.2.1, hX.2.2.2.2.2.2.2.2.2.2.2.1, hX.2.2.2.2.2.2.2.2.2.2.2.2.1, hX.2.2.2.2.2.2.2.2.2.2.2.2.2.1, hX.2.2.2.2.2.2.2.2.2.2.2.2.2.2.1, hX.2.2.2.2.2.2.2.2.2.2.2.2.2.2.2.1, hX.2.2.2.2.2.2.2.2.2.2.2.2.2.2.2.2.1, hX.2.2.2.2.2.2.2.2.2.2.2.2.2.2.2.2.2.1, hX.2.2.2.2.2.2.2.2.2.2.2.2.2.2.2.2.2.2.1, hX.2.2.2.2.2.2.2.2.2.2.2.2.2.2.2.2.2.2.2.1, hX.2.2.2.2.2.2.2.2.2.2.2.2.2.2.2.2.2.2.2.2.1, hX.2.2.2.2.2.2.2.2.2.2.2.2.2.2.2.2.2.2.2.2.2.1, hX.2.2.2.2.2.2.2.2.2.2.2.2.2.2.2.2.2.2.2.2.2.2.1, hX.2.2.2.2.2.2.2.2.2.2.2.2.2.2.2.2.2.2.2.2.2.2.2.1, hX.2.2.2.2.2.2.2.2.2.2.2.2.2.2.2.2.2.2.2.2.2.2.2.2.1, hX.2.2.2.2.2.2.2.2.2.2.2.2.2.2.2.2.2.2.2.2.2.2.2.2.2.1, hX.2.2.2.2.2.2.2.2.2.2.2.2.2.2.2.2.2.2.2.2.2.2.2.2.2.2⟩ ⟨hM.1, hM.2.1, hM.2.2⟩ hR hP hD hS hl
    · have bb25 := i32b a1
      refine behR (runVP (As := [.int a1, .int a2, .int 2, .int a4, .int a5]) (rest := []) ⟨hx, hb, hml, hown, ht⟩ (sX10_paste_lo l G cs h1 (Q 0) (F 0) (A 0) (B 0) (D 0) hX.1 a1 a2 2 a4 a5 (by omega)) okV_RL_276 ⟨(Nat.le_of_ble_eq_true rfl), (Nat.le_of_ble_eq_true rfl)⟩ hK hP [0, 1, 2] rfl 0 rfl rfl hl.1 rfl (Nat.le_of_ble_eq_true rfl) dL_law_2119 ⟨(Nat.le_of_ble_eq_true rfl), (Nat.le_of_ble_eq_true rfl)⟩) hP hS (fun _ h => h) (fun r26 H locs hr26 hP hS => ?_)
      have kk27 : (2 : Int32).toInt = 2 := by decide
      have hr26 : r26.toInt = -2 := hr26
      refine lv_pop hx hb dL_law_2122 rfl ?_
      refine lv_aload_n hx hb dL_law_2123 rfl (lv_at hl 1 rfl) ?_
      refine lv_aload_n hx hb dL_law_2124 rfl (lv_at hl 3 rfl) ?_
      refine lv_iload_n hx hb dL_law_2125 rfl (lv_at hl 0 rfl) ?_
      refine lv_iconst (v := 1) hx hb dL_law_2126 (by decide) ?_
      refine lv_iadd hx hb dL_law_2127 ?_
      refine va_sld hx hb hXs hbl hbA hS (inK t1 (by omega) (by omega)) dL_law_2128 ?_
      refine W.eq (g2 := F0 m 2129 ls [.int a1, .ref h2]) (by rw [← ea1]) ?_
      refine lv_aload_n hx hb dL_law_2129 rfl (lv_at hl 3 rfl) ?_
      refine lv_iload_n hx hb dL_law_2130 rfl (lv_at hl 0 rfl) ?_
      refine lv_iconst (v := 2) hx hb dL_law_2131 (by decide) ?_
      refine lv_iadd hx hb dL_law_2132 ?_
      refine va_sld hx hb hXs hbl hbA hS (inK t2 (by omega) (by omega)) dL_law_2133 ?_
      refine W.eq (g2 := F0 m 2134 ls [.int a2, .int a1, .ref h2]) (by rw [← ea2]) ?_
      refine lv_aload_n hx hb dL_law_2134 rfl (lv_at hl 3 rfl) ?_
      refine lv_iload_n hx hb dL_law_2135 rfl (lv_at hl 0 rfl) ?_
      refine lv_iconst (v := 3) hx hb dL_law_2136 (by decide) ?_
      refine lv_iadd hx hb dL_law_2137 ?_
      refine va_sld hx hb hXs hbl hbA hS (inK t3 (by omega) (by omega)) dL_law_2138 ?_
      refine W.eq (g2 := F0 m 2139 ls [.int 2, .int a2, .int a1, .ref h2]) (by rw [← ea3]) ?_
      refine lv_aload_n hx hb dL_law_2139 rfl (lv_at hl 3 rfl) ?_
      refine lv_iload_n hx hb dL_law_2140 rfl (lv_at hl 0 rfl) ?_
      refine lv_iconst (v := 4) hx hb dL_law_2141 (by decide) ?_
      refine lv_iadd hx hb dL_law_2142 ?_
      refine va_sld hx hb hXs hbl hbA hS (inK t4 (by omega) (by omega)) dL_law_2143 ?_
      refine W.eq (g2 := F0 m 2144 ls [.int a4, .int 2, .int a2, .int a1, .ref h2]) (by rw [← ea4]) ?_
      refine lv_aload_n hx hb dL_law_2144 rfl (lv_at hl 3 rfl) ?_
      refine lv_iload_n hx hb dL_law_2145 rfl (lv_at hl 0 rfl) ?_
      refine lv_iconst (v := 5) hx hb dL_law_2146 (by decide) ?_
      refine lv_iadd hx hb dL_law_2147 ?_
      refine va_sld hx hb hXs hbl hbA hS (inK t5 (by omega) (by omega)) dL_law_2148 ?_
      refine W.eq (g2 := F0 m 2149 ls [.int a5, .int a4, .int 2, .int a2, .int a1, .ref h2]) (by rw [← ea5]) ?_
      refine behDi (wr := (XLW cs h1 Q F A B D)) (runVD (As := [.int a1, .int a2, .int 2, .int a4, .int a5]) (rest := []) ⟨hx, hb, hml, hown, ht⟩ (sX11_paste l G cs h2 q2 MF MA MD MB hM.1 a1 a2 2 a4 a5) okV_RL_279 ⟨(Nat.le_of_ble_eq_true rfl), (Nat.le_of_ble_eq_true rfl)⟩ hK hP hD [101, 102, 103, 104, 105, 106, 107, 108, 109, 110, 111, 112, 113, 114, 115, 116, 117, 118, 119, 120] rfl (by decide +kernel) rfl 101 rfl rfl hl.1 rfl (Nat.le_of_ble_eq_true rfl) dL_law_2149 ⟨(Nat.le_of_ble_eq_true rfl), (Nat.le_of_ble_eq_true rfl)⟩) hP hD hS (fun _ h => h) [101, 102, 103, 104, 105, 106, 107, 108, 109, 110, 111, 112, 113, 114, 115, 116, 117, 118, 119, 120] [0, 1, 2, 3, 4, 5, 6, 7, 8, 9, 10, 11, 12, 13, 14, 15, 16, 17, 18, 19, 20, 21, 22, 23, 24, 25, 26, 27, 28, 29, 30, 31, 32, 33, 34, 35, 36, 37, 38, 39, 40, 41, 42, 43, 44, 45, 46, 47, 48, 49, 50, 51, 52, 53, 54, 55, 56, 57, 58, 59, 60, 61, 62, 63, 64, 65, 66, 67, 68, 69, 70, 71, 72, 73, 74, 75, 76, 77, 78, 79, 80, 81, 82, 83, 84, 85, 86, 87, 88, 89, 90, 91, 92, 93, 94, 95, 96, 97, 98, 99, 100] rfl rfl (by decide +kernel) (by decide +kernel) (fun r9 u H locs hu hP hD hS => ?_)
      obtain ⟨y29, y30⟩ := u
      obtain ⟨r28, rfl⟩ : ∃ z, z = r9 := ⟨_, rfl⟩
      have hr28 := hu
      have kk31 : (2 : Int32).toInt = 2 := by decide
      have hr28 : (r28.toInt = -2 ∧ (a1.toInt < 0 ∨ 3 < a1.toInt ∨ (2 : Int32).toInt < 0 ∨ 3 < (2 : Int32).toInt)) ∨ ((0 ≤ a1.toInt ∧ a1.toInt ≤ 3) ∧ (0 ≤ (2 : Int32).toInt ∧ (2 : Int32).toInt ≤ 3) ∧ (((MA 31) a1.toNatClampNeg).toInt = -1 ∨ ((MA 31) (2 : Int32).toNatClampNeg).toInt = -1) ∧ r28.toInt = -6) ∨ ((0 ≤ a1.toInt ∧ a1.toInt ≤ 3) ∧ (0 ≤ (2 : Int32).toInt ∧ (2 : Int32).toInt ≤ 3) ∧ ¬ ((MA 31) a1.toNatClampNeg).toInt = -1 ∧ ¬ ((MA 31) (2 : Int32).toNatClampNeg).toInt = -1 ∧ ¬ ((MA 32) a1.toNatClampNeg).toInt = ((MA 32) (2 : Int32).toNatClampNeg).toInt ∧ r28.toInt = -8) ∨ ((0 ≤ a1.toInt ∧ a1.toInt ≤ 3) ∧ (0 ≤ (2 : Int32).toInt ∧ (2 : Int32).toInt ≤ 3) ∧ ¬ ((MA 31) a1.toNatClampNeg).toInt = -1 ∧ ¬ ((MA 31) (2 : Int32).toNatClampNeg).toInt = -1 ∧ ((MA 32) a1.toNatClampNeg).toInt = ((MA 32) (2 : Int32).toNatClampNeg).toInt ∧ (a2.toInt < 0 ∨ a4.toInt < 0 ∨ a5.toInt < 0 ∨ ((MA 31) a1.toNatClampNeg).toInt < a2.toInt + a5.toInt ∨ ((MA 31) (2 : Int32).toNatClampNeg).toInt < a4.toInt + a5.toInt) ∧ r28.toInt = -7) ∨ ((0 ≤ a1.toInt ∧ a1.toInt ≤ 3) ∧ (0 ≤ (2 : Int32).toInt ∧ (2 : Int32).toInt ≤ 3) ∧ ¬ ((MA 31) a1.toNatClampNeg).toInt = -1 ∧ ¬ ((MA 31) (2 : Int32).toNatClampNeg).toInt = -1 ∧ ((MA 32) a1.toNatClampNeg).toInt = ((MA 32) (2 : Int32).toNatClampNeg).toInt ∧ ¬ (a2.toInt < 0 ∨ a4.toInt < 0 ∨ a5.toInt < 0 ∨ ((MA 31) a1.toNatClampNeg).toInt < a2.toInt + a5.toInt ∨ ((MA 31) (2 : Int32).toNatClampNeg).toInt < a4.toInt + a5.toInt) ∧ r28.toInt = 0) := hr28
      have hP : va_P G vwCl (LW cs h1 Q h2 q2 F A B D MF MA MD (vA (vA MB 33 y29) 34 y30)) H := hP
      have hD : va_D (fun q : Nat => s.heap.size ≤ q) (LW cs h1 Q h2 q2 F A B D MF MA MD (vA (vA MB 33 y29) 34 y30)) := hD
      have n31_2 : (MA 31 (2 : Int32).toNatClampNeg).toInt = (MA 31 2).toInt := congrArg (fun z => (MA 31 z).toInt) (show (2 : Int32).toNatClampNeg = 2 by decide)
      have n32_2 : (MA 32 (2 : Int32).toNatClampNeg).toInt = (MA 32 2).toInt := congrArg (fun z => (MA 32 z).toInt) (show (2 : Int32).toNatClampNeg = 2 by decide)
      have nsr_2 : ((F 14 1).toInt = 0 ∧ (MA 31 2).toInt = -1) ∨ (¬ (F 14 1).toInt = 0 ∧ (MA 31 2).toInt = (F 14 3).toInt ∧ 0 ≤ (F 14 3).toInt ∧ (MA 32 2).toInt = (F 14 2).toInt) := hR.2.2.2.2.2.1
      refine lv_pop hx hb dL_law_2152 rfl ?_
      refine lv_goto (tgt := 2156) hx hb dL_law_2153 (by decide) ?_
      exact kk F A B D MF MA MD (vA (vA MB 33 y29) 34 y30) H locs ls ⟨hX.1, hX.2.1, hX.2.2.1, hX.2.2.2.1, hX.2.2.2.2.1, hX.2.2.2.2.2.1, hX.2.2.2.2.2.2.1, hX.2.2.2.2.2.2.2.1, hX.2.2.2.2.2.2.2.2.1, hX.2.2.2.2.2.2.2.2.2.1, hX.2.2.2.2.2.2.2.2.2.2.1, hX.2.2.2.2.2.2.2.2.2.2.2.1, hX.2.2.2.2.2.2.2.2.2.2.2.2.1, hX.2.2.2.2.2.2.2.2.2.2.2.2.2.1, hX.2.2.2.2.2.2.2.2.2.2.2.2.2.2.1, hX.2.2.2.2.2.2.2.2.2.2.2.2.2.2.2.1, hX.2.2.2.2.2.2.2.2.2.2.2.2.2.2.2.2.1, hX.2.2.2.2.2.2.2.2.2.2.2.2.2.2.2.2.2.1, hX.2.2.2.2.2.2.2.2.2.2.2.2.2.2.2.2.2.2.1, hX.2.2.2.2.2.2.2.2.2.2.2.2.2.2.2.2.2.2.2.1, hX.2.2.2.2.2.2.2.2.2.2.2.2.2.2.2.2.2.2.2.2.1, hX.2.2.2.2.2.2.2.2.2.2.2.2.2.2.2.2.2.2.2.2.2.1, hX.2.2.2.2.2.2.2.2.2.2.2.2.2.2.2.2.2.2.2.2.2.2.1, hX.2.2.2.2.2.2.2.2.2.2.2.2.2.2.2.2.2.2.2.2.2.2.2.1, hX.2.2.2.2.2.2.2.2.2.2.2.2.2.2.2.2.2.2.2.2.2.2.2.2.1, hX.2.2.2.2.2.2.2.2.2.2.2.2.2.2.2.2.2.2.2.2.2.2.2.2.2.1, hX.2.2.2.2.2.2.2.2.2.2.2.2.2.2.2.2.2.2.2.2.2.2.2.2.2.2⟩ ⟨hM.1, hM.2.1, hM.2.2⟩ hR hP hD hS hl
    · have bb32 := i32b a1
      refine behR (runVP (As := [.int a1, .int a2, .int 3, .int a4, .int a5]) (rest := []) ⟨hx, hb, hml, hown, ht⟩ (sX10_paste_lo l G cs h1 (Q 0) (F 0) (A 0) (B 0) (D 0) hX.1 a1 a2 3 a4 a5 (by omega)) okV_RL_276 ⟨(Nat.le_of_ble_eq_true rfl), (Nat.le_of_ble_eq_true rfl)⟩ hK hP [0, 1, 2] rfl 0 rfl rfl hl.1 rfl (Nat.le_of_ble_eq_true rfl) dL_law_2119 ⟨(Nat.le_of_ble_eq_true rfl), (Nat.le_of_ble_eq_true rfl)⟩) hP hS (fun _ h => h) (fun r33 H locs hr33 hP hS => ?_)
      have kk34 : (3 : Int32).toInt = 3 := by decide
      have hr33 : r33.toInt = -2 := hr33
      refine lv_pop hx hb dL_law_2122 rfl ?_
      refine lv_aload_n hx hb dL_law_2123 rfl (lv_at hl 1 rfl) ?_
      refine lv_aload_n hx hb dL_law_2124 rfl (lv_at hl 3 rfl) ?_
      refine lv_iload_n hx hb dL_law_2125 rfl (lv_at hl 0 rfl) ?_
      refine lv_iconst (v := 1) hx hb dL_law_2126 (by decide) ?_
      refine lv_iadd hx hb dL_law_2127 ?_
      refine va_sld hx hb hXs hbl hbA hS (inK t1 (by omega) (by omega)) dL_law_2128 ?_
      refine W.eq (g2 := F0 m 2129 ls [.int a1, .ref h2]) (by rw [← ea1]) ?_
      refine lv_aload_n hx hb dL_law_2129 rfl (lv_at hl 3 rfl) ?_
      refine lv_iload_n hx hb dL_law_2130 rfl (lv_at hl 0 rfl) ?_
      refine lv_iconst (v := 2) hx hb dL_law_2131 (by decide) ?_
      refine lv_iadd hx hb dL_law_2132 ?_
      refine va_sld hx hb hXs hbl hbA hS (inK t2 (by omega) (by omega)) dL_law_2133 ?_
      refine W.eq (g2 := F0 m 2134 ls [.int a2, .int a1, .ref h2]) (by rw [← ea2]) ?_
      refine lv_aload_n hx hb dL_law_2134 rfl (lv_at hl 3 rfl) ?_
      refine lv_iload_n hx hb dL_law_2135 rfl (lv_at hl 0 rfl) ?_
      refine lv_iconst (v := 3) hx hb dL_law_2136 (by decide) ?_
      refine lv_iadd hx hb dL_law_2137 ?_
      refine va_sld hx hb hXs hbl hbA hS (inK t3 (by omega) (by omega)) dL_law_2138 ?_
      refine W.eq (g2 := F0 m 2139 ls [.int 3, .int a2, .int a1, .ref h2]) (by rw [← ea3]) ?_
      refine lv_aload_n hx hb dL_law_2139 rfl (lv_at hl 3 rfl) ?_
      refine lv_iload_n hx hb dL_law_2140 rfl (lv_at hl 0 rfl) ?_
      refine lv_iconst (v := 4) hx hb dL_law_2141 (by decide) ?_
      refine lv_iadd hx hb dL_law_2142 ?_
      refine va_sld hx hb hXs hbl hbA hS (inK t4 (by omega) (by omega)) dL_law_2143 ?_
      refine W.eq (g2 := F0 m 2144 ls [.int a4, .int 3, .int a2, .int a1, .ref h2]) (by rw [← ea4]) ?_
      refine lv_aload_n hx hb dL_law_2144 rfl (lv_at hl 3 rfl) ?_
      refine lv_iload_n hx hb dL_law_2145 rfl (lv_at hl 0 rfl) ?_
      refine lv_iconst (v := 5) hx hb dL_law_2146 (by decide) ?_
      refine lv_iadd hx hb dL_law_2147 ?_
      refine va_sld hx hb hXs hbl hbA hS (inK t5 (by omega) (by omega)) dL_law_2148 ?_
      refine W.eq (g2 := F0 m 2149 ls [.int a5, .int a4, .int 3, .int a2, .int a1, .ref h2]) (by rw [← ea5]) ?_
      refine behDi (wr := (XLW cs h1 Q F A B D)) (runVD (As := [.int a1, .int a2, .int 3, .int a4, .int a5]) (rest := []) ⟨hx, hb, hml, hown, ht⟩ (sX11_paste l G cs h2 q2 MF MA MD MB hM.1 a1 a2 3 a4 a5) okV_RL_279 ⟨(Nat.le_of_ble_eq_true rfl), (Nat.le_of_ble_eq_true rfl)⟩ hK hP hD [101, 102, 103, 104, 105, 106, 107, 108, 109, 110, 111, 112, 113, 114, 115, 116, 117, 118, 119, 120] rfl (by decide +kernel) rfl 101 rfl rfl hl.1 rfl (Nat.le_of_ble_eq_true rfl) dL_law_2149 ⟨(Nat.le_of_ble_eq_true rfl), (Nat.le_of_ble_eq_true rfl)⟩) hP hD hS (fun _ h => h) [101, 102, 103, 104, 105, 106, 107, 108, 109, 110, 111, 112, 113, 114, 115, 116, 117, 118, 119, 120] [0, 1, 2, 3, 4, 5, 6, 7, 8, 9, 10, 11, 12, 13, 14, 15, 16, 17, 18, 19, 20, 21, 22, 23, 24, 25, 26, 27, 28, 29, 30, 31, 32, 33, 34, 35, 36, 37, 38, 39, 40, 41, 42, 43, 44, 45, 46, 47, 48, 49, 50, 51, 52, 53, 54, 55, 56, 57, 58, 59, 60, 61, 62, 63, 64, 65, 66, 67, 68, 69, 70, 71, 72, 73, 74, 75, 76, 77, 78, 79, 80, 81, 82, 83, 84, 85, 86, 87, 88, 89, 90, 91, 92, 93, 94, 95, 96, 97, 98, 99, 100] rfl rfl (by decide +kernel) (by decide +kernel) (fun r9 u H locs hu hP hD hS => ?_)
      obtain ⟨y36, y37⟩ := u
      obtain ⟨r35, rfl⟩ : ∃ z, z = r9 := ⟨_, rfl⟩
      have hr35 := hu
      have kk38 : (3 : Int32).toInt = 3 := by decide
      have hr35 : (r35.toInt = -2 ∧ (a1.toInt < 0 ∨ 3 < a1.toInt ∨ (3 : Int32).toInt < 0 ∨ 3 < (3 : Int32).toInt)) ∨ ((0 ≤ a1.toInt ∧ a1.toInt ≤ 3) ∧ (0 ≤ (3 : Int32).toInt ∧ (3 : Int32).toInt ≤ 3) ∧ (((MA 31) a1.toNatClampNeg).toInt = -1 ∨ ((MA 31) (3 : Int32).toNatClampNeg).toInt = -1) ∧ r35.toInt = -6) ∨ ((0 ≤ a1.toInt ∧ a1.toInt ≤ 3) ∧ (0 ≤ (3 : Int32).toInt ∧ (3 : Int32).toInt ≤ 3) ∧ ¬ ((MA 31) a1.toNatClampNeg).toInt = -1 ∧ ¬ ((MA 31) (3 : Int32).toNatClampNeg).toInt = -1 ∧ ¬ ((MA 32) a1.toNatClampNeg).toInt = ((MA 32) (3 : Int32).toNatClampNeg).toInt ∧ r35.toInt = -8) ∨ ((0 ≤ a1.toInt ∧ a1.toInt ≤ 3) ∧ (0 ≤ (3 : Int32).toInt ∧ (3 : Int32).toInt ≤ 3) ∧ ¬ ((MA 31) a1.toNatClampNeg).toInt = -1 ∧ ¬ ((MA 31) (3 : Int32).toNatClampNeg).toInt = -1 ∧ ((MA 32) a1.toNatClampNeg).toInt = ((MA 32) (3 : Int32).toNatClampNeg).toInt ∧ (a2.toInt < 0 ∨ a4.toInt < 0 ∨ a5.toInt < 0 ∨ ((MA 31) a1.toNatClampNeg).toInt < a2.toInt + a5.toInt ∨ ((MA 31) (3 : Int32).toNatClampNeg).toInt < a4.toInt + a5.toInt) ∧ r35.toInt = -7) ∨ ((0 ≤ a1.toInt ∧ a1.toInt ≤ 3) ∧ (0 ≤ (3 : Int32).toInt ∧ (3 : Int32).toInt ≤ 3) ∧ ¬ ((MA 31) a1.toNatClampNeg).toInt = -1 ∧ ¬ ((MA 31) (3 : Int32).toNatClampNeg).toInt = -1 ∧ ((MA 32) a1.toNatClampNeg).toInt = ((MA 32) (3 : Int32).toNatClampNeg).toInt ∧ ¬ (a2.toInt < 0 ∨ a4.toInt < 0 ∨ a5.toInt < 0 ∨ ((MA 31) a1.toNatClampNeg).toInt < a2.toInt + a5.toInt ∨ ((MA 31) (3 : Int32).toNatClampNeg).toInt < a4.toInt + a5.toInt) ∧ r35.toInt = 0) := hr35
      have hP : va_P G vwCl (LW cs h1 Q h2 q2 F A B D MF MA MD (vA (vA MB 33 y36) 34 y37)) H := hP
      have hD : va_D (fun q : Nat => s.heap.size ≤ q) (LW cs h1 Q h2 q2 F A B D MF MA MD (vA (vA MB 33 y36) 34 y37)) := hD
      have n31_3 : (MA 31 (3 : Int32).toNatClampNeg).toInt = (MA 31 3).toInt := congrArg (fun z => (MA 31 z).toInt) (show (3 : Int32).toNatClampNeg = 3 by decide)
      have n32_3 : (MA 32 (3 : Int32).toNatClampNeg).toInt = (MA 32 3).toInt := congrArg (fun z => (MA 32 z).toInt) (show (3 : Int32).toNatClampNeg = 3 by decide)
      have nsr_3 : ((F 15 1).toInt = 0 ∧ (MA 31 3).toInt = -1) ∨ (¬ (F 15 1).toInt = 0 ∧ (MA 31 3).toInt = (F 15 3).toInt ∧ 0 ≤ (F 15 3).toInt ∧ (MA 32 3).toInt = (F 15 2).toInt) := hR.2.2.2.2.2.2
      refine lv_pop hx hb dL_law_2152 rfl ?_
      refine lv_goto (tgt := 2156) hx hb dL_law_2153 (by decide) ?_
      exact kk F A B D MF MA MD (vA (vA MB 33 y36) 34 y37) H locs ls ⟨hX.1, hX.2.1, hX.2.2.1, hX.2.2.2.1, hX.2.2.2.2.1, hX.2.2.2.2.2.1, hX.2.2.2.2.2.2.1, hX.2.2.2.2.2.2.2.1, hX.2.2.2.2.2.2.2.2.1, hX.2.2.2.2.2.2.2.2.2.1, hX.2.2.2.2.2.2.2.2.2.2.1, hX.2.2.2.2.2.2.2.2.2.2.2.1, hX.2.2.2.2.2.2.2.2.2.2.2.2.1, hX.2.2.2.2.2.2.2.2.2.2.2.2.2.1, hX.2.2.2.2.2.2.2.2.2.2.2.2.2.2.1, hX.2.2.2.2.2.2.2.2.2.2.2.2.2.2.2.1, hX.2.2.2.2.2.2.2.2.2.2.2.2.2.2.2.2.1, hX.2.2.2.2.2.2.2.2.2.2.2.2.2.2.2.2.2.1, hX.2.2.2.2.2.2.2.2.2.2.2.2.2.2.2.2.2.2.1, hX.2.2.2.2.2.2.2.2.2.2.2.2.2.2.2.2.2.2.2.1, hX.2.2.2.2.2.2.2.2.2.2.2.2.2.2.2.2.2.2.2.2.1, hX.2.2.2.2.2.2.2.2.2.2.2.2.2.2.2.2.2.2.2.2.2.1, hX.2.2.2.2.2.2.2.2.2.2.2.2.2.2.2.2.2.2.2.2.2.2.1, hX.2.2.2.2.2.2.2.2.2.2.2.2.2.2.2.2.2.2.2.2.2.2.2.1, hX.2.2.2.2.2.2.2.2.2.2.2.2.2.2.2.2.2.2.2.2.2.2.2.2.1, hX.2.2.2.2.2.2.2.2.2.2.2.2.2.2.2.2.2.2.2.2.2.2.2.2.2.1, hX.2.2.2.2.2.2.2.2.2.2.2.2.2.2.2.2.2.2.2.2.2.2.2.2.2.2⟩ ⟨hM.1, hM.2.1, hM.2.2⟩ hR hP hD hS hl
  · rcases csN4 a3 with hN | hN | rfl | rfl | rfl | rfl
    · have bb39 := i32b a1
      refine behR (runVP (As := [.int a1, .int a2, .int a3, .int a4, .int a5]) (rest := []) ⟨hx, hb, hml, hown, ht⟩ (sX10_paste_hi l G cs h1 (Q 0) (F 0) (A 0) (B 0) (D 0) hX.1 a1 a2 a3 a4 a5 (by omega)) okV_RL_276 ⟨(Nat.le_of_ble_eq_true rfl), (Nat.le_of_ble_eq_true rfl)⟩ hK hP [0, 1, 2] rfl 0 rfl rfl hl.1 rfl (Nat.le_of_ble_eq_true rfl) dL_law_2119 ⟨(Nat.le_of_ble_eq_true rfl), (Nat.le_of_ble_eq_true rfl)⟩) hP hS (fun _ h => h) (fun r40 H locs hr40 hP hS => ?_)
      have hr40 : r40.toInt = -2 := hr40
      refine lv_pop hx hb dL_law_2122 rfl ?_
      refine lv_aload_n hx hb dL_law_2123 rfl (lv_at hl 1 rfl) ?_
      refine lv_aload_n hx hb dL_law_2124 rfl (lv_at hl 3 rfl) ?_
      refine lv_iload_n hx hb dL_law_2125 rfl (lv_at hl 0 rfl) ?_
      refine lv_iconst (v := 1) hx hb dL_law_2126 (by decide) ?_
      refine lv_iadd hx hb dL_law_2127 ?_
      refine va_sld hx hb hXs hbl hbA hS (inK t1 (by omega) (by omega)) dL_law_2128 ?_
      refine W.eq (g2 := F0 m 2129 ls [.int a1, .ref h2]) (by rw [← ea1]) ?_
      refine lv_aload_n hx hb dL_law_2129 rfl (lv_at hl 3 rfl) ?_
      refine lv_iload_n hx hb dL_law_2130 rfl (lv_at hl 0 rfl) ?_
      refine lv_iconst (v := 2) hx hb dL_law_2131 (by decide) ?_
      refine lv_iadd hx hb dL_law_2132 ?_
      refine va_sld hx hb hXs hbl hbA hS (inK t2 (by omega) (by omega)) dL_law_2133 ?_
      refine W.eq (g2 := F0 m 2134 ls [.int a2, .int a1, .ref h2]) (by rw [← ea2]) ?_
      refine lv_aload_n hx hb dL_law_2134 rfl (lv_at hl 3 rfl) ?_
      refine lv_iload_n hx hb dL_law_2135 rfl (lv_at hl 0 rfl) ?_
      refine lv_iconst (v := 3) hx hb dL_law_2136 (by decide) ?_
      refine lv_iadd hx hb dL_law_2137 ?_
      refine va_sld hx hb hXs hbl hbA hS (inK t3 (by omega) (by omega)) dL_law_2138 ?_
      refine W.eq (g2 := F0 m 2139 ls [.int a3, .int a2, .int a1, .ref h2]) (by rw [← ea3]) ?_
      refine lv_aload_n hx hb dL_law_2139 rfl (lv_at hl 3 rfl) ?_
      refine lv_iload_n hx hb dL_law_2140 rfl (lv_at hl 0 rfl) ?_
      refine lv_iconst (v := 4) hx hb dL_law_2141 (by decide) ?_
      refine lv_iadd hx hb dL_law_2142 ?_
      refine va_sld hx hb hXs hbl hbA hS (inK t4 (by omega) (by omega)) dL_law_2143 ?_
      refine W.eq (g2 := F0 m 2144 ls [.int a4, .int a3, .int a2, .int a1, .ref h2]) (by rw [← ea4]) ?_
      refine lv_aload_n hx hb dL_law_2144 rfl (lv_at hl 3 rfl) ?_
      refine lv_iload_n hx hb dL_law_2145 rfl (lv_at hl 0 rfl) ?_
      refine lv_iconst (v := 5) hx hb dL_law_2146 (by decide) ?_
      refine lv_iadd hx hb dL_law_2147 ?_
      refine va_sld hx hb hXs hbl hbA hS (inK t5 (by omega) (by omega)) dL_law_2148 ?_
      refine W.eq (g2 := F0 m 2149 ls [.int a5, .int a4, .int a3, .int a2, .int a1, .ref h2]) (by rw [← ea5]) ?_
      refine behDi (wr := (XLW cs h1 Q F A B D)) (runVD (As := [.int a1, .int a2, .int a3, .int a4, .int a5]) (rest := []) ⟨hx, hb, hml, hown, ht⟩ (sX11_paste l G cs h2 q2 MF MA MD MB hM.1 a1 a2 a3 a4 a5) okV_RL_279 ⟨(Nat.le_of_ble_eq_true rfl), (Nat.le_of_ble_eq_true rfl)⟩ hK hP hD [101, 102, 103, 104, 105, 106, 107, 108, 109, 110, 111, 112, 113, 114, 115, 116, 117, 118, 119, 120] rfl (by decide +kernel) rfl 101 rfl rfl hl.1 rfl (Nat.le_of_ble_eq_true rfl) dL_law_2149 ⟨(Nat.le_of_ble_eq_true rfl), (Nat.le_of_ble_eq_true rfl)⟩) hP hD hS (fun _ h => h) [101, 102, 103, 104, 105, 106, 107, 108, 109, 110, 111, 112, 113, 114, 115, 116, 117, 118, 119, 120] [0, 1, 2, 3, 4, 5, 6, 7, 8, 9, 10, 11, 12, 13, 14, 15, 16, 17, 18, 19, 20, 21, 22, 23, 24, 25, 26, 27, 28, 29, 30, 31, 32, 33, 34, 35, 36, 37, 38, 39, 40, 41, 42, 43, 44, 45, 46, 47, 48, 49, 50, 51, 52, 53, 54, 55, 56, 57, 58, 59, 60, 61, 62, 63, 64, 65, 66, 67, 68, 69, 70, 71, 72, 73, 74, 75, 76, 77, 78, 79, 80, 81, 82, 83, 84, 85, 86, 87, 88, 89, 90, 91, 92, 93, 94, 95, 96, 97, 98, 99, 100] rfl rfl (by decide +kernel) (by decide +kernel) (fun r9 u H locs hu hP hD hS => ?_)
      obtain ⟨y42, y43⟩ := u
      obtain ⟨r41, rfl⟩ : ∃ z, z = r9 := ⟨_, rfl⟩
      have hr41 := hu
      have hr41 : (r41.toInt = -2 ∧ (a1.toInt < 0 ∨ 3 < a1.toInt ∨ a3.toInt < 0 ∨ 3 < a3.toInt)) ∨ ((0 ≤ a1.toInt ∧ a1.toInt ≤ 3) ∧ (0 ≤ a3.toInt ∧ a3.toInt ≤ 3) ∧ (((MA 31) a1.toNatClampNeg).toInt = -1 ∨ ((MA 31) a3.toNatClampNeg).toInt = -1) ∧ r41.toInt = -6) ∨ ((0 ≤ a1.toInt ∧ a1.toInt ≤ 3) ∧ (0 ≤ a3.toInt ∧ a3.toInt ≤ 3) ∧ ¬ ((MA 31) a1.toNatClampNeg).toInt = -1 ∧ ¬ ((MA 31) a3.toNatClampNeg).toInt = -1 ∧ ¬ ((MA 32) a1.toNatClampNeg).toInt = ((MA 32) a3.toNatClampNeg).toInt ∧ r41.toInt = -8) ∨ ((0 ≤ a1.toInt ∧ a1.toInt ≤ 3) ∧ (0 ≤ a3.toInt ∧ a3.toInt ≤ 3) ∧ ¬ ((MA 31) a1.toNatClampNeg).toInt = -1 ∧ ¬ ((MA 31) a3.toNatClampNeg).toInt = -1 ∧ ((MA 32) a1.toNatClampNeg).toInt = ((MA 32) a3.toNatClampNeg).toInt ∧ (a2.toInt < 0 ∨ a4.toInt < 0 ∨ a5.toInt < 0 ∨ ((MA 31) a1.toNatClampNeg).toInt < a2.toInt + a5.toInt ∨ ((MA 31) a3.toNatClampNeg).toInt < a4.toInt + a5.toInt) ∧ r41.toInt = -7) ∨ ((0 ≤ a1.toInt ∧ a1.toInt ≤ 3) ∧ (0 ≤ a3.toInt ∧ a3.toInt ≤ 3) ∧ ¬ ((MA 31) a1.toNatClampNeg).toInt = -1 ∧ ¬ ((MA 31) a3.toNatClampNeg).toInt = -1 ∧ ((MA 32) a1.toNatClampNeg).toInt = ((MA 32) a3.toNatClampNeg).toInt ∧ ¬ (a2.toInt < 0 ∨ a4.toInt < 0 ∨ a5.toInt < 0 ∨ ((MA 31) a1.toNatClampNeg).toInt < a2.toInt + a5.toInt ∨ ((MA 31) a3.toNatClampNeg).toInt < a4.toInt + a5.toInt) ∧ r41.toInt = 0) := hr41
      have hP : va_P G vwCl (LW cs h1 Q h2 q2 F A B D MF MA MD (vA (vA MB 33 y42) 34 y43)) H := hP
      have hD : va_D (fun q : Nat => s.heap.size ≤ q) (LW cs h1 Q h2 q2 F A B D MF MA MD (vA (vA MB 33 y42) 34 y43)) := hD
      refine lv_pop hx hb dL_law_2152 rfl ?_
      refine lv_goto (tgt := 2156) hx hb dL_law_2153 (by decide) ?_
      exact kk F A B D MF MA MD (vA (vA MB 33 y42) 34 y43) H locs ls ⟨hX.1, hX.2.1, hX.2.2.1, hX.2.2.2.1, hX.2.2.2.2.1, hX.2.2.2.2.2.1, hX.2.2.2.2.2.2.1, hX.2.2.2.2.2.2.2.1, hX.2.2.2.2.2.2.2.2.1, hX.2.2.2.2.2.2.2.2.2.1, hX.2.2.2.2.2.2.2.2.2.2.1, hX.2.2.2.2.2.2.2.2.2.2.2.1, hX.2.2.2.2.2.2.2.2.2.2.2.2.1, hX.2.2.2.2.2.2.2.2.2.2.2.2.2.1, hX.2.2.2.2.2.2.2.2.2.2.2.2.2.2.1, hX.2.2.2.2.2.2.2.2.2.2.2.2.2.2.2.1, hX.2.2.2.2.2.2.2.2.2.2.2.2.2.2.2.2.1, hX.2.2.2.2.2.2.2.2.2.2.2.2.2.2.2.2.2.1, hX.2.2.2.2.2.2.2.2.2.2.2.2.2.2.2.2.2.2.1, hX.2.2.2.2.2.2.2.2.2.2.2.2.2.2.2.2.2.2.2.1, hX.2.2.2.2.2.2.2.2.2.2.2.2.2.2.2.2.2.2.2.2.1, hX.2.2.2.2.2.2.2.2.2.2.2.2.2.2.2.2.2.2.2.2.2.1, hX.2.2.2.2.2.2.2.2.2.2.2.2.2.2.2.2.2.2.2.2.2.2.1, hX.2.2.2.2.2.2.2.2.2.2.2.2.2.2.2.2.2.2.2.2.2.2.2.1, hX.2.2.2.2.2.2.2.2.2.2.2.2.2.2.2.2.2.2.2.2.2.2.2.2.1, hX.2.2.2.2.2.2.2.2.2.2.2.2.2.2.2.2.2.2.2.2.2.2.2.2.2.1, hX.2.2.2.2.2.2.2.2.2.2.2.2.2.2.2.2.2.2.2.2.2.2.2.2.2.2⟩ ⟨hM.1, hM.2.1, hM.2.2⟩ hR hP hD hS hl
    · have bb44 := i32b a1
      refine behR (runVP (As := [.int a1, .int a2, .int a3, .int a4, .int a5]) (rest := []) ⟨hx, hb, hml, hown, ht⟩ (sX10_paste_hi l G cs h1 (Q 0) (F 0) (A 0) (B 0) (D 0) hX.1 a1 a2 a3 a4 a5 (by omega)) okV_RL_276 ⟨(Nat.le_of_ble_eq_true rfl), (Nat.le_of_ble_eq_true rfl)⟩ hK hP [0, 1, 2] rfl 0 rfl rfl hl.1 rfl (Nat.le_of_ble_eq_true rfl) dL_law_2119 ⟨(Nat.le_of_ble_eq_true rfl), (Nat.le_of_ble_eq_true rfl)⟩) hP hS (fun _ h => h) (fun r45 H locs hr45 hP hS => ?_)
      have hr45 : r45.toInt = -2 := hr45
      refine lv_pop hx hb dL_law_2122 rfl ?_
      refine lv_aload_n hx hb dL_law_2123 rfl (lv_at hl 1 rfl) ?_
      refine lv_aload_n hx hb dL_law_2124 rfl (lv_at hl 3 rfl) ?_
      refine lv_iload_n hx hb dL_law_2125 rfl (lv_at hl 0 rfl) ?_
      refine lv_iconst (v := 1) hx hb dL_law_2126 (by decide) ?_
      refine lv_iadd hx hb dL_law_2127 ?_
      refine va_sld hx hb hXs hbl hbA hS (inK t1 (by omega) (by omega)) dL_law_2128 ?_
      refine W.eq (g2 := F0 m 2129 ls [.int a1, .ref h2]) (by rw [← ea1]) ?_
      refine lv_aload_n hx hb dL_law_2129 rfl (lv_at hl 3 rfl) ?_
      refine lv_iload_n hx hb dL_law_2130 rfl (lv_at hl 0 rfl) ?_
      refine lv_iconst (v := 2) hx hb dL_law_2131 (by decide) ?_
      refine lv_iadd hx hb dL_law_2132 ?_
      refine va_sld hx hb hXs hbl hbA hS (inK t2 (by omega) (by omega)) dL_law_2133 ?_
      refine W.eq (g2 := F0 m 2134 ls [.int a2, .int a1, .ref h2]) (by rw [← ea2]) ?_
      refine lv_aload_n hx hb dL_law_2134 rfl (lv_at hl 3 rfl) ?_
      refine lv_iload_n hx hb dL_law_2135 rfl (lv_at hl 0 rfl) ?_
      refine lv_iconst (v := 3) hx hb dL_law_2136 (by decide) ?_
      refine lv_iadd hx hb dL_law_2137 ?_
      refine va_sld hx hb hXs hbl hbA hS (inK t3 (by omega) (by omega)) dL_law_2138 ?_
      refine W.eq (g2 := F0 m 2139 ls [.int a3, .int a2, .int a1, .ref h2]) (by rw [← ea3]) ?_
      refine lv_aload_n hx hb dL_law_2139 rfl (lv_at hl 3 rfl) ?_
      refine lv_iload_n hx hb dL_law_2140 rfl (lv_at hl 0 rfl) ?_
      refine lv_iconst (v := 4) hx hb dL_law_2141 (by decide) ?_
      refine lv_iadd hx hb dL_law_2142 ?_
      refine va_sld hx hb hXs hbl hbA hS (inK t4 (by omega) (by omega)) dL_law_2143 ?_
      refine W.eq (g2 := F0 m 2144 ls [.int a4, .int a3, .int a2, .int a1, .ref h2]) (by rw [← ea4]) ?_
      refine lv_aload_n hx hb dL_law_2144 rfl (lv_at hl 3 rfl) ?_
      refine lv_iload_n hx hb dL_law_2145 rfl (lv_at hl 0 rfl) ?_
      refine lv_iconst (v := 5) hx hb dL_law_2146 (by decide) ?_
      refine lv_iadd hx hb dL_law_2147 ?_
      refine va_sld hx hb hXs hbl hbA hS (inK t5 (by omega) (by omega)) dL_law_2148 ?_
      refine W.eq (g2 := F0 m 2149 ls [.int a5, .int a4, .int a3, .int a2, .int a1, .ref h2]) (by rw [← ea5]) ?_
      refine behDi (wr := (XLW cs h1 Q F A B D)) (runVD (As := [.int a1, .int a2, .int a3, .int a4, .int a5]) (rest := []) ⟨hx, hb, hml, hown, ht⟩ (sX11_paste l G cs h2 q2 MF MA MD MB hM.1 a1 a2 a3 a4 a5) okV_RL_279 ⟨(Nat.le_of_ble_eq_true rfl), (Nat.le_of_ble_eq_true rfl)⟩ hK hP hD [101, 102, 103, 104, 105, 106, 107, 108, 109, 110, 111, 112, 113, 114, 115, 116, 117, 118, 119, 120] rfl (by decide +kernel) rfl 101 rfl rfl hl.1 rfl (Nat.le_of_ble_eq_true rfl) dL_law_2149 ⟨(Nat.le_of_ble_eq_true rfl), (Nat.le_of_ble_eq_true rfl)⟩) hP hD hS (fun _ h => h) [101, 102, 103, 104, 105, 106, 107, 108, 109, 110, 111, 112, 113, 114, 115, 116, 117, 118, 119, 120] [0, 1, 2, 3, 4, 5, 6, 7, 8, 9, 10, 11, 12, 13, 14, 15, 16, 17, 18, 19, 20, 21, 22, 23, 24, 25, 26, 27, 28, 29, 30, 31, 32, 33, 34, 35, 36, 37, 38, 39, 40, 41, 42, 43, 44, 45, 46, 47, 48, 49, 50, 51, 52, 53, 54, 55, 56, 57, 58, 59, 60, 61, 62, 63, 64, 65, 66, 67, 68, 69, 70, 71, 72, 73, 74, 75, 76, 77, 78, 79, 80, 81, 82, 83, 84, 85, 86, 87, 88, 89, 90, 91, 92, 93, 94, 95, 96, 97, 98, 99, 100] rfl rfl (by decide +kernel) (by decide +kernel) (fun r9 u H locs hu hP hD hS => ?_)
      obtain ⟨y47, y48⟩ := u
      obtain ⟨r46, rfl⟩ : ∃ z, z = r9 := ⟨_, rfl⟩
      have hr46 := hu
      have hr46 : (r46.toInt = -2 ∧ (a1.toInt < 0 ∨ 3 < a1.toInt ∨ a3.toInt < 0 ∨ 3 < a3.toInt)) ∨ ((0 ≤ a1.toInt ∧ a1.toInt ≤ 3) ∧ (0 ≤ a3.toInt ∧ a3.toInt ≤ 3) ∧ (((MA 31) a1.toNatClampNeg).toInt = -1 ∨ ((MA 31) a3.toNatClampNeg).toInt = -1) ∧ r46.toInt = -6) ∨ ((0 ≤ a1.toInt ∧ a1.toInt ≤ 3) ∧ (0 ≤ a3.toInt ∧ a3.toInt ≤ 3) ∧ ¬ ((MA 31) a1.toNatClampNeg).toInt = -1 ∧ ¬ ((MA 31) a3.toNatClampNeg).toInt = -1 ∧ ¬ ((MA 32) a1.toNatClampNeg).toInt = ((MA 32) a3.toNatClampNeg).toInt ∧ r46.toInt = -8) ∨ ((0 ≤ a1.toInt ∧ a1.toInt ≤ 3) ∧ (0 ≤ a3.toInt ∧ a3.toInt ≤ 3) ∧ ¬ ((MA 31) a1.toNatClampNeg).toInt = -1 ∧ ¬ ((MA 31) a3.toNatClampNeg).toInt = -1 ∧ ((MA 32) a1.toNatClampNeg).toInt = ((MA 32) a3.toNatClampNeg).toInt ∧ (a2.toInt < 0 ∨ a4.toInt < 0 ∨ a5.toInt < 0 ∨ ((MA 31) a1.toNatClampNeg).toInt < a2.toInt + a5.toInt ∨ ((MA 31) a3.toNatClampNeg).toInt < a4.toInt + a5.toInt) ∧ r46.toInt = -7) ∨ ((0 ≤ a1.toInt ∧ a1.toInt ≤ 3) ∧ (0 ≤ a3.toInt ∧ a3.toInt ≤ 3) ∧ ¬ ((MA 31) a1.toNatClampNeg).toInt = -1 ∧ ¬ ((MA 31) a3.toNatClampNeg).toInt = -1 ∧ ((MA 32) a1.toNatClampNeg).toInt = ((MA 32) a3.toNatClampNeg).toInt ∧ ¬ (a2.toInt < 0 ∨ a4.toInt < 0 ∨ a5.toInt < 0 ∨ ((MA 31) a1.toNatClampNeg).toInt < a2.toInt + a5.toInt ∨ ((MA 31) a3.toNatClampNeg).toInt < a4.toInt + a5.toInt) ∧ r46.toInt = 0) := hr46
      have hP : va_P G vwCl (LW cs h1 Q h2 q2 F A B D MF MA MD (vA (vA MB 33 y47) 34 y48)) H := hP
      have hD : va_D (fun q : Nat => s.heap.size ≤ q) (LW cs h1 Q h2 q2 F A B D MF MA MD (vA (vA MB 33 y47) 34 y48)) := hD
      refine lv_pop hx hb dL_law_2152 rfl ?_
      refine lv_goto (tgt := 2156) hx hb dL_law_2153 (by decide) ?_
      exact kk F A B D MF MA MD (vA (vA MB 33 y47) 34 y48) H locs ls ⟨hX.1, hX.2.1, hX.2.2.1, hX.2.2.2.1, hX.2.2.2.2.1, hX.2.2.2.2.2.1, hX.2.2.2.2.2.2.1, hX.2.2.2.2.2.2.2.1, hX.2.2.2.2.2.2.2.2.1, hX.2.2.2.2.2.2.2.2.2.1, hX.2.2.2.2.2.2.2.2.2.2.1, hX.2.2.2.2.2.2.2.2.2.2.2.1, hX.2.2.2.2.2.2.2.2.2.2.2.2.1, hX.2.2.2.2.2.2.2.2.2.2.2.2.2.1, hX.2.2.2.2.2.2.2.2.2.2.2.2.2.2.1, hX.2.2.2.2.2.2.2.2.2.2.2.2.2.2.2.1, hX.2.2.2.2.2.2.2.2.2.2.2.2.2.2.2.2.1, hX.2.2.2.2.2.2.2.2.2.2.2.2.2.2.2.2.2.1, hX.2.2.2.2.2.2.2.2.2.2.2.2.2.2.2.2.2.2.1, hX.2.2.2.2.2.2.2.2.2.2.2.2.2.2.2.2.2.2.2.1, hX.2.2.2.2.2.2.2.2.2.2.2.2.2.2.2.2.2.2.2.2.1, hX.2.2.2.2.2.2.2.2.2.2.2.2.2.2.2.2.2.2.2.2.2.1, hX.2.2.2.2.2.2.2.2.2.2.2.2.2.2.2.2.2.2.2.2.2.2.1, hX.2.2.2.2.2.2.2.2.2.2.2.2.2.2.2.2.2.2.2.2.2.2.2.1, hX.2.2.2.2.2.2.2.2.2.2.2.2.2.2.2.2.2.2.2.2.2.2.2.2.1, hX.2.2.2.2.2.2.2.2.2.2.2.2.2.2.2.2.2.2.2.2.2.2.2.2.2.1, hX.2.2.2.2.2.2.2.2.2.2.2.2.2.2.2.2.2.2.2.2.2.2.2.2.2.2⟩ ⟨hM.1, hM.2.1, hM.2.2⟩ hR hP hD hS hl
    · have bb49 := i32b a1
      refine behR (runVP (As := [.int a1, .int a2, .int 0, .int a4, .int a5]) (rest := []) ⟨hx, hb, hml, hown, ht⟩ (sX10_paste_hi l G cs h1 (Q 0) (F 0) (A 0) (B 0) (D 0) hX.1 a1 a2 0 a4 a5 (by omega)) okV_RL_276 ⟨(Nat.le_of_ble_eq_true rfl), (Nat.le_of_ble_eq_true rfl)⟩ hK hP [0, 1, 2] rfl 0 rfl rfl hl.1 rfl (Nat.le_of_ble_eq_true rfl) dL_law_2119 ⟨(Nat.le_of_ble_eq_true rfl), (Nat.le_of_ble_eq_true rfl)⟩) hP hS (fun _ h => h) (fun r50 H locs hr50 hP hS => ?_)
      have kk51 : (0 : Int32).toInt = 0 := by decide
      have hr50 : r50.toInt = -2 := hr50
      refine lv_pop hx hb dL_law_2122 rfl ?_
      refine lv_aload_n hx hb dL_law_2123 rfl (lv_at hl 1 rfl) ?_
      refine lv_aload_n hx hb dL_law_2124 rfl (lv_at hl 3 rfl) ?_
      refine lv_iload_n hx hb dL_law_2125 rfl (lv_at hl 0 rfl) ?_
      refine lv_iconst (v := 1) hx hb dL_law_2126 (by decide) ?_
      refine lv_iadd hx hb dL_law_2127 ?_
      refine va_sld hx hb hXs hbl hbA hS (inK t1 (by omega) (by omega)) dL_law_2128 ?_
      refine W.eq (g2 := F0 m 2129 ls [.int a1, .ref h2]) (by rw [← ea1]) ?_
      refine lv_aload_n hx hb dL_law_2129 rfl (lv_at hl 3 rfl) ?_
      refine lv_iload_n hx hb dL_law_2130 rfl (lv_at hl 0 rfl) ?_
      refine lv_iconst (v := 2) hx hb dL_law_2131 (by decide) ?_
      refine lv_iadd hx hb dL_law_2132 ?_
      refine va_sld hx hb hXs hbl hbA hS (inK t2 (by omega) (by omega)) dL_law_2133 ?_
      refine W.eq (g2 := F0 m 2134 ls [.int a2, .int a1, .ref h2]) (by rw [← ea2]) ?_
      refine lv_aload_n hx hb dL_law_2134 rfl (lv_at hl 3 rfl) ?_
      refine lv_iload_n hx hb dL_law_2135 rfl (lv_at hl 0 rfl) ?_
      refine lv_iconst (v := 3) hx hb dL_law_2136 (by decide) ?_
      refine lv_iadd hx hb dL_law_2137 ?_
      refine va_sld hx hb hXs hbl hbA hS (inK t3 (by omega) (by omega)) dL_law_2138 ?_
      refine W.eq (g2 := F0 m 2139 ls [.int 0, .int a2, .int a1, .ref h2]) (by rw [← ea3]) ?_
      refine lv_aload_n hx hb dL_law_2139 rfl (lv_at hl 3 rfl) ?_
      refine lv_iload_n hx hb dL_law_2140 rfl (lv_at hl 0 rfl) ?_
      refine lv_iconst (v := 4) hx hb dL_law_2141 (by decide) ?_
      refine lv_iadd hx hb dL_law_2142 ?_
      refine va_sld hx hb hXs hbl hbA hS (inK t4 (by omega) (by omega)) dL_law_2143 ?_
      refine W.eq (g2 := F0 m 2144 ls [.int a4, .int 0, .int a2, .int a1, .ref h2]) (by rw [← ea4]) ?_
      refine lv_aload_n hx hb dL_law_2144 rfl (lv_at hl 3 rfl) ?_
      refine lv_iload_n hx hb dL_law_2145 rfl (lv_at hl 0 rfl) ?_
      refine lv_iconst (v := 5) hx hb dL_law_2146 (by decide) ?_
      refine lv_iadd hx hb dL_law_2147 ?_
      refine va_sld hx hb hXs hbl hbA hS (inK t5 (by omega) (by omega)) dL_law_2148 ?_
      refine W.eq (g2 := F0 m 2149 ls [.int a5, .int a4, .int 0, .int a2, .int a1, .ref h2]) (by rw [← ea5]) ?_
      refine behDi (wr := (XLW cs h1 Q F A B D)) (runVD (As := [.int a1, .int a2, .int 0, .int a4, .int a5]) (rest := []) ⟨hx, hb, hml, hown, ht⟩ (sX11_paste l G cs h2 q2 MF MA MD MB hM.1 a1 a2 0 a4 a5) okV_RL_279 ⟨(Nat.le_of_ble_eq_true rfl), (Nat.le_of_ble_eq_true rfl)⟩ hK hP hD [101, 102, 103, 104, 105, 106, 107, 108, 109, 110, 111, 112, 113, 114, 115, 116, 117, 118, 119, 120] rfl (by decide +kernel) rfl 101 rfl rfl hl.1 rfl (Nat.le_of_ble_eq_true rfl) dL_law_2149 ⟨(Nat.le_of_ble_eq_true rfl), (Nat.le_of_ble_eq_true rfl)⟩) hP hD hS (fun _ h => h) [101, 102, 103, 104, 105, 106, 107, 108, 109, 110, 111, 112, 113, 114, 115, 116, 117, 118, 119, 120] [0, 1, 2, 3, 4, 5, 6, 7, 8, 9, 10, 11, 12, 13, 14, 15, 16, 17, 18, 19, 20, 21, 22, 23, 24, 25, 26, 27, 28, 29, 30, 31, 32, 33, 34, 35, 36, 37, 38, 39, 40, 41, 42, 43, 44, 45, 46, 47, 48, 49, 50, 51, 52, 53, 54, 55, 56, 57, 58, 59, 60, 61, 62, 63, 64, 65, 66, 67, 68, 69, 70, 71, 72, 73, 74, 75, 76, 77, 78, 79, 80, 81, 82, 83, 84, 85, 86, 87, 88, 89, 90, 91, 92, 93, 94, 95, 96, 97, 98, 99, 100] rfl rfl (by decide +kernel) (by decide +kernel) (fun r9 u H locs hu hP hD hS => ?_)
      obtain ⟨y53, y54⟩ := u
      obtain ⟨r52, rfl⟩ : ∃ z, z = r9 := ⟨_, rfl⟩
      have hr52 := hu
      have kk55 : (0 : Int32).toInt = 0 := by decide
      have hr52 : (r52.toInt = -2 ∧ (a1.toInt < 0 ∨ 3 < a1.toInt ∨ (0 : Int32).toInt < 0 ∨ 3 < (0 : Int32).toInt)) ∨ ((0 ≤ a1.toInt ∧ a1.toInt ≤ 3) ∧ (0 ≤ (0 : Int32).toInt ∧ (0 : Int32).toInt ≤ 3) ∧ (((MA 31) a1.toNatClampNeg).toInt = -1 ∨ ((MA 31) (0 : Int32).toNatClampNeg).toInt = -1) ∧ r52.toInt = -6) ∨ ((0 ≤ a1.toInt ∧ a1.toInt ≤ 3) ∧ (0 ≤ (0 : Int32).toInt ∧ (0 : Int32).toInt ≤ 3) ∧ ¬ ((MA 31) a1.toNatClampNeg).toInt = -1 ∧ ¬ ((MA 31) (0 : Int32).toNatClampNeg).toInt = -1 ∧ ¬ ((MA 32) a1.toNatClampNeg).toInt = ((MA 32) (0 : Int32).toNatClampNeg).toInt ∧ r52.toInt = -8) ∨ ((0 ≤ a1.toInt ∧ a1.toInt ≤ 3) ∧ (0 ≤ (0 : Int32).toInt ∧ (0 : Int32).toInt ≤ 3) ∧ ¬ ((MA 31) a1.toNatClampNeg).toInt = -1 ∧ ¬ ((MA 31) (0 : Int32).toNatClampNeg).toInt = -1 ∧ ((MA 32) a1.toNatClampNeg).toInt = ((MA 32) (0 : Int32).toNatClampNeg).toInt ∧ (a2.toInt < 0 ∨ a4.toInt < 0 ∨ a5.toInt < 0 ∨ ((MA 31) a1.toNatClampNeg).toInt < a2.toInt + a5.toInt ∨ ((MA 31) (0 : Int32).toNatClampNeg).toInt < a4.toInt + a5.toInt) ∧ r52.toInt = -7) ∨ ((0 ≤ a1.toInt ∧ a1.toInt ≤ 3) ∧ (0 ≤ (0 : Int32).toInt ∧ (0 : Int32).toInt ≤ 3) ∧ ¬ ((MA 31) a1.toNatClampNeg).toInt = -1 ∧ ¬ ((MA 31) (0 : Int32).toNatClampNeg).toInt = -1 ∧ ((MA 32) a1.toNatClampNeg).toInt = ((MA 32) (0 : Int32).toNatClampNeg).toInt ∧ ¬ (a2.toInt < 0 ∨ a4.toInt < 0 ∨ a5.toInt < 0 ∨ ((MA 31) a1.toNatClampNeg).toInt < a2.toInt + a5.toInt ∨ ((MA 31) (0 : Int32).toNatClampNeg).toInt < a4.toInt + a5.toInt) ∧ r52.toInt = 0) := hr52
      have hP : va_P G vwCl (LW cs h1 Q h2 q2 F A B D MF MA MD (vA (vA MB 33 y53) 34 y54)) H := hP
      have hD : va_D (fun q : Nat => s.heap.size ≤ q) (LW cs h1 Q h2 q2 F A B D MF MA MD (vA (vA MB 33 y53) 34 y54)) := hD
      have n31_0 : (MA 31 (0 : Int32).toNatClampNeg).toInt = (MA 31 0).toInt := congrArg (fun z => (MA 31 z).toInt) (show (0 : Int32).toNatClampNeg = 0 by decide)
      have n32_0 : (MA 32 (0 : Int32).toNatClampNeg).toInt = (MA 32 0).toInt := congrArg (fun z => (MA 32 z).toInt) (show (0 : Int32).toNatClampNeg = 0 by decide)
      have nsr_0 : ((F 12 1).toInt = 0 ∧ (MA 31 0).toInt = -1) ∨ (¬ (F 12 1).toInt = 0 ∧ (MA 31 0).toInt = (F 12 3).toInt ∧ 0 ≤ (F 12 3).toInt ∧ (MA 32 0).toInt = (F 12 2).toInt) := hR.2.2.2.1
      refine lv_pop hx hb dL_law_2152 rfl ?_
      refine lv_goto (tgt := 2156) hx hb dL_law_2153 (by decide) ?_
      exact kk F A B D MF MA MD (vA (vA MB 33 y53) 34 y54) H locs ls ⟨hX.1, hX.2.1, hX.2.2.1, hX.2.2.2.1, hX.2.2.2.2.1, hX.2.2.2.2.2.1, hX.2.2.2.2.2.2.1, hX.2.2.2.2.2.2.2.1, hX.2.2.2.2.2.2.2.2.1, hX.2.2.2.2.2.2.2.2.2.1, hX.2.2.2.2.2.2.2.2.2.2.1, hX.2.2.2.2.2.2.2.2.2.2.2.1, hX.2.2.2.2.2.2.2.2.2.2.2.2.1, hX.2.2.2.2.2.2.2.2.2.2.2.2.2.1, hX.2.2.2.2.2.2.2.2.2.2.2.2.2.2.1, hX.2.2.2.2.2.2.2.2.2.2.2.2.2.2.2.1, hX.2.2.2.2.2.2.2.2.2.2.2.2.2.2.2.2.1, hX.2.2.2.2.2.2.2.2.2.2.2.2.2.2.2.2.2.1, hX.2.2.2.2.2.2.2.2.2.2.2.2.2.2.2.2.2.2.1, hX.2.2.2.2.2.2.2.2.2.2.2.2.2.2.2.2.2.2.2.1, hX.2.2.2.2.2.2.2.2.2.2.2.2.2.2.2.2.2.2.2.2.1, hX.2.2.2.2.2.2.2.2.2.2.2.2.2.2.2.2.2.2.2.2.2.1, hX.2.2.2.2.2.2.2.2.2.2.2.2.2.2.2.2.2.2.2.2.2.2.1, hX.2.2.2.2.2.2.2.2.2.2.2.2.2.2.2.2.2.2.2.2.2.2.2.1, hX.2.2.2.2.2.2.2.2.2.2.2.2.2.2.2.2.2.2.2.2.2.2.2.2.1, hX.2.2.2.2.2.2.2.2.2.2.2.2.2.2.2.2.2.2.2.2.2.2.2.2.2.1, hX.2.2.2.2.2.2.2.2.2.2.2.2.2.2.2.2.2.2.2.2.2.2.2.2.2.2⟩ ⟨hM.1, hM.2.1, hM.2.2⟩ hR hP hD hS hl
    · have bb56 := i32b a1
      refine behR (runVP (As := [.int a1, .int a2, .int 1, .int a4, .int a5]) (rest := []) ⟨hx, hb, hml, hown, ht⟩ (sX10_paste_hi l G cs h1 (Q 0) (F 0) (A 0) (B 0) (D 0) hX.1 a1 a2 1 a4 a5 (by omega)) okV_RL_276 ⟨(Nat.le_of_ble_eq_true rfl), (Nat.le_of_ble_eq_true rfl)⟩ hK hP [0, 1, 2] rfl 0 rfl rfl hl.1 rfl (Nat.le_of_ble_eq_true rfl) dL_law_2119 ⟨(Nat.le_of_ble_eq_true rfl), (Nat.le_of_ble_eq_true rfl)⟩) hP hS (fun _ h => h) (fun r57 H locs hr57 hP hS => ?_)
      have kk58 : (1 : Int32).toInt = 1 := by decide
      have hr57 : r57.toInt = -2 := hr57
      refine lv_pop hx hb dL_law_2122 rfl ?_
      refine lv_aload_n hx hb dL_law_2123 rfl (lv_at hl 1 rfl) ?_
      refine lv_aload_n hx hb dL_law_2124 rfl (lv_at hl 3 rfl) ?_
      refine lv_iload_n hx hb dL_law_2125 rfl (lv_at hl 0 rfl) ?_
      refine lv_iconst (v := 1) hx hb dL_law_2126 (by decide) ?_
      refine lv_iadd hx hb dL_law_2127 ?_
      refine va_sld hx hb hXs hbl hbA hS (inK t1 (by omega) (by omega)) dL_law_2128 ?_
      refine W.eq (g2 := F0 m 2129 ls [.int a1, .ref h2]) (by rw [← ea1]) ?_
      refine lv_aload_n hx hb dL_law_2129 rfl (lv_at hl 3 rfl) ?_
      refine lv_iload_n hx hb dL_law_2130 rfl (lv_at hl 0 rfl) ?_
      refine lv_iconst (v := 2) hx hb dL_law_2131 (by decide) ?_
      refine lv_iadd hx hb dL_law_2132 ?_
      refine va_sld hx hb hXs hbl hbA hS (inK t2 (by omega) (by omega)) dL_law_2133 ?_
      refine W.eq (g2 := F0 m 2134 ls [.int a2, .int a1, .ref h2]) (by rw [← ea2]) ?_
      refine lv_aload_n hx hb dL_law_2134 rfl (lv_at hl 3 rfl) ?_
      refine lv_iload_n hx hb dL_law_2135 rfl (lv_at hl 0 rfl) ?_
      refine lv_iconst (v := 3) hx hb dL_law_2136 (by decide) ?_
      refine lv_iadd hx hb dL_law_2137 ?_
      refine va_sld hx hb hXs hbl hbA hS (inK t3 (by omega) (by omega)) dL_law_2138 ?_
      refine W.eq (g2 := F0 m 2139 ls [.int 1, .int a2, .int a1, .ref h2]) (by rw [← ea3]) ?_
      refine lv_aload_n hx hb dL_law_2139 rfl (lv_at hl 3 rfl) ?_
      refine lv_iload_n hx hb dL_law_2140 rfl (lv_at hl 0 rfl) ?_
      refine lv_iconst (v := 4) hx hb dL_law_2141 (by decide) ?_
      refine lv_iadd hx hb dL_law_2142 ?_
      refine va_sld hx hb hXs hbl hbA hS (inK t4 (by omega) (by omega)) dL_law_2143 ?_
      refine W.eq (g2 := F0 m 2144 ls [.int a4, .int 1, .int a2, .int a1, .ref h2]) (by rw [← ea4]) ?_
      refine lv_aload_n hx hb dL_law_2144 rfl (lv_at hl 3 rfl) ?_
      refine lv_iload_n hx hb dL_law_2145 rfl (lv_at hl 0 rfl) ?_
      refine lv_iconst (v := 5) hx hb dL_law_2146 (by decide) ?_
      refine lv_iadd hx hb dL_law_2147 ?_
      refine va_sld hx hb hXs hbl hbA hS (inK t5 (by omega) (by omega)) dL_law_2148 ?_
      refine W.eq (g2 := F0 m 2149 ls [.int a5, .int a4, .int 1, .int a2, .int a1, .ref h2]) (by rw [← ea5]) ?_
      refine behDi (wr := (XLW cs h1 Q F A B D)) (runVD (As := [.int a1, .int a2, .int 1, .int a4, .int a5]) (rest := []) ⟨hx, hb, hml, hown, ht⟩ (sX11_paste l G cs h2 q2 MF MA MD MB hM.1 a1 a2 1 a4 a5) okV_RL_279 ⟨(Nat.le_of_ble_eq_true rfl), (Nat.le_of_ble_eq_true rfl)⟩ hK hP hD [101, 102, 103, 104, 105, 106, 107, 108, 109, 110, 111, 112, 113, 114, 115, 116, 117, 118, 119, 120] rfl (by decide +kernel) rfl 101 rfl rfl hl.1 rfl (Nat.le_of_ble_eq_true rfl) dL_law_2149 ⟨(Nat.le_of_ble_eq_true rfl), (Nat.le_of_ble_eq_true rfl)⟩) hP hD hS (fun _ h => h) [101, 102, 103, 104, 105, 106, 107, 108, 109, 110, 111, 112, 113, 114, 115, 116, 117, 118, 119, 120] [0, 1, 2, 3, 4, 5, 6, 7, 8, 9, 10, 11, 12, 13, 14, 15, 16, 17, 18, 19, 20, 21, 22, 23, 24, 25, 26, 27, 28, 29, 30, 31, 32, 33, 34, 35, 36, 37, 38, 39, 40, 41, 42, 43, 44, 45, 46, 47, 48, 49, 50, 51, 52, 53, 54, 55, 56, 57, 58, 59, 60, 61, 62, 63, 64, 65, 66, 67, 68, 69, 70, 71, 72, 73, 74, 75, 76, 77, 78, 79, 80, 81, 82, 83, 84, 85, 86, 87, 88, 89, 90, 91, 92, 93, 94, 95, 96, 97, 98, 99, 100] rfl rfl (by decide +kernel) (by decide +kernel) (fun r9 u H locs hu hP hD hS => ?_)
      obtain ⟨y60, y61⟩ := u
      obtain ⟨r59, rfl⟩ : ∃ z, z = r9 := ⟨_, rfl⟩
      have hr59 := hu
      have kk62 : (1 : Int32).toInt = 1 := by decide
      have hr59 : (r59.toInt = -2 ∧ (a1.toInt < 0 ∨ 3 < a1.toInt ∨ (1 : Int32).toInt < 0 ∨ 3 < (1 : Int32).toInt)) ∨ ((0 ≤ a1.toInt ∧ a1.toInt ≤ 3) ∧ (0 ≤ (1 : Int32).toInt ∧ (1 : Int32).toInt ≤ 3) ∧ (((MA 31) a1.toNatClampNeg).toInt = -1 ∨ ((MA 31) (1 : Int32).toNatClampNeg).toInt = -1) ∧ r59.toInt = -6) ∨ ((0 ≤ a1.toInt ∧ a1.toInt ≤ 3) ∧ (0 ≤ (1 : Int32).toInt ∧ (1 : Int32).toInt ≤ 3) ∧ ¬ ((MA 31) a1.toNatClampNeg).toInt = -1 ∧ ¬ ((MA 31) (1 : Int32).toNatClampNeg).toInt = -1 ∧ ¬ ((MA 32) a1.toNatClampNeg).toInt = ((MA 32) (1 : Int32).toNatClampNeg).toInt ∧ r59.toInt = -8) ∨ ((0 ≤ a1.toInt ∧ a1.toInt ≤ 3) ∧ (0 ≤ (1 : Int32).toInt ∧ (1 : Int32).toInt ≤ 3) ∧ ¬ ((MA 31) a1.toNatClampNeg).toInt = -1 ∧ ¬ ((MA 31) (1 : Int32).toNatClampNeg).toInt = -1 ∧ ((MA 32) a1.toNatClampNeg).toInt = ((MA 32) (1 : Int32).toNatClampNeg).toInt ∧ (a2.toInt < 0 ∨ a4.toInt < 0 ∨ a5.toInt < 0 ∨ ((MA 31) a1.toNatClampNeg).toInt < a2.toInt + a5.toInt ∨ ((MA 31) (1 : Int32).toNatClampNeg).toInt < a4.toInt + a5.toInt) ∧ r59.toInt = -7) ∨ ((0 ≤ a1.toInt ∧ a1.toInt ≤ 3) ∧ (0 ≤ (1 : Int32).toInt ∧ (1 : Int32).toInt ≤ 3) ∧ ¬ ((MA 31) a1.toNatClampNeg).toInt = -1 ∧ ¬ ((MA 31) (1 : Int32).toNatClampNeg).toInt = -1 ∧ ((MA 32) a1.toNatClampNeg).toInt = ((MA 32) (1 : Int32).toNatClampNeg).toInt ∧ ¬ (a2.toInt < 0 ∨ a4.toInt < 0 ∨ a5.toInt < 0 ∨ ((MA 31) a1.toNatClampNeg).toInt < a2.toInt + a5.toInt ∨ ((MA 31) (1 : Int32).toNatClampNeg).toInt < a4.toInt + a5.toInt) ∧ r59.toInt = 0) := hr59
      have hP : va_P G vwCl (LW cs h1 Q h2 q2 F A B D MF MA MD (vA (vA MB 33 y60) 34 y61)) H := hP
      have hD : va_D (fun q : Nat => s.heap.size ≤ q) (LW cs h1 Q h2 q2 F A B D MF MA MD (vA (vA MB 33 y60) 34 y61)) := hD
      have n31_1 : (MA 31 (1 : Int32).toNatClampNeg).toInt = (MA 31 1).toInt := congrArg (fun z => (MA 31 z).toInt) (show (1 : Int32).toNatClampNeg = 1 by decide)
      have n32_1 : (MA 32 (1 : Int32).toNatClampNeg).toInt = (MA 32 1).toInt := congrArg (fun z => (MA 32 z).toInt) (show (1 : Int32).toNatClampNeg = 1 by decide)
      have nsr_1 : ((F 13 1).toInt = 0 ∧ (MA 31 1).toInt = -1) ∨ (¬ (F 13 1).toInt = 0 ∧ (MA 31 1).toInt = (F 13 3).toInt ∧ 0 ≤ (F 13 3).toInt ∧ (MA 32 1).toInt = (F 13 2).toInt) := hR.2.2.2.2.1
      refine lv_pop hx hb dL_law_2152 rfl ?_
      refine lv_goto (tgt := 2156) hx hb dL_law_2153 (by decide) ?_
      exact kk F A B D MF MA MD (vA (vA MB 33 y60) 34 y61) H locs ls ⟨hX.1, hX.2.1, hX.2.2.1, hX.2.2.2.1, hX.2.2.2.2.1, hX.2.2.2.2.2.1, hX.2.2.2.2.2.2.1, hX.2.2.2.2.2.2.2.1, hX.2.2.2.2.2.2.2.2.1, hX.2.2.2.2.2.2.2.2.2.1, hX.2.2.2.2.2.2.2.2.2.2.1, hX.2.2.2.2.2.2.2.2.2.2.2.1, hX.2.2.2.2.2.2.2.2.2.2.2.2.1, hX.2.2.2.2.2.2.2.2.2.2.2.2.2.1, hX.2.2.2.2.2.2.2.2.2.2.2.2.2.2.1, hX.2.2.2.2.2.2.2.2.2.2.2.2.2.2.2.1, hX.2.2.2.2.2.2.2.2.2.2.2.2.2.2.2.2.1, hX.2.2.2.2.2.2.2.2.2.2.2.2.2.2.2.2.2.1, hX.2.2.2.2.2.2.2.2.2.2.2.2.2.2.2.2.2.2.1, hX.2.2.2.2.2.2.2.2.2.2.2.2.2.2.2.2.2.2.2.1, hX.2.2.2.2.2.2.2.2.2.2.2.2.2.2.2.2.2.2.2.2.1, hX.2.2.2.2.2.2.2.2.2.2.2.2.2.2.2.2.2.2.2.2.2.1, hX.2.2.2.2.2.2.2.2.2.2.2.2.2.2.2.2.2.2.2.2.2.2.1, hX.2.2.2.2.2.2.2.2.2.2.2.2.2.2.2.2.2.2.2.2.2.2.2.1, hX.2.2.2.2.2.2.2.2.2.2.2.2.2.2.2.2.2.2.2.2.2.2.2.2.1, hX.2.2.2.2.2.2.2.2.2.2.2.2.2.2.2.2.2.2.2.2.2.2.2.2.2.1, hX.2.2.2.2.2.2.2.2.2.2.2.2.2.2.2.2.2.2.2.2.2.2.2.2.2.2⟩ ⟨hM.1, hM.2.1, hM.2.2⟩ hR hP hD hS hl
    · have bb63 := i32b a1
      refine behR (runVP (As := [.int a1, .int a2, .int 2, .int a4, .int a5]) (rest := []) ⟨hx, hb, hml, hown, ht⟩ (sX10_paste_hi l G cs h1 (Q 0) (F 0) (A 0) (B 0) (D 0) hX.1 a1 a2 2 a4 a5 (by omega)) okV_RL_276 ⟨(Nat.le_of_ble_eq_true rfl), (Nat.le_of_ble_eq_true rfl)⟩ hK hP [0, 1, 2] rfl 0 rfl rfl hl.1 rfl (Nat.le_of_ble_eq_true rfl) dL_law_2119 ⟨(Nat.le_of_ble_eq_true rfl), (Nat.le_of_ble_eq_true rfl)⟩) hP hS (fun _ h => h) (fun r64 H locs hr64 hP hS => ?_)
      have kk65 : (2 : Int32).toInt = 2 := by decide
      have hr64 : r64.toInt = -2 := hr64
      refine lv_pop hx hb dL_law_2122 rfl ?_
      refine lv_aload_n hx hb dL_law_2123 rfl (lv_at hl 1 rfl) ?_
      refine lv_aload_n hx hb dL_law_2124 rfl (lv_at hl 3 rfl) ?_
      refine lv_iload_n hx hb dL_law_2125 rfl (lv_at hl 0 rfl) ?_
      refine lv_iconst (v := 1) hx hb dL_law_2126 (by decide) ?_
      refine lv_iadd hx hb dL_law_2127 ?_
      refine va_sld hx hb hXs hbl hbA hS (inK t1 (by omega) (by omega)) dL_law_2128 ?_
      refine W.eq (g2 := F0 m 2129 ls [.int a1, .ref h2]) (by rw [← ea1]) ?_
      refine lv_aload_n hx hb dL_law_2129 rfl (lv_at hl 3 rfl) ?_
      refine lv_iload_n hx hb dL_law_2130 rfl (lv_at hl 0 rfl) ?_
      refine lv_iconst (v := 2) hx hb dL_law_2131 (by decide) ?_
      refine lv_iadd hx hb dL_law_2132 ?_
      refine va_sld hx hb hXs hbl hbA hS (inK t2 (by omega) (by omega)) dL_law_2133 ?_
      refine W.eq (g2 := F0 m 2134 ls [.int a2, .int a1, .ref h2]) (by rw [← ea2]) ?_
      refine lv_aload_n hx hb dL_law_2134 rfl (lv_at hl 3 rfl) ?_
      refine lv_iload_n hx hb dL_law_2135 rfl (lv_at hl 0 rfl) ?_
      refine lv_iconst (v := 3) hx hb dL_law_2136 (by decide) ?_
      refine lv_iadd hx hb dL_law_2137 ?_
      refine va_sld hx hb hXs hbl hbA hS (inK t3 (by omega) (by omega)) dL_law_2138 ?_
      refine W.eq (g2 := F0 m 2139 ls [.int 2, .int a2, .int a1, .ref h2]) (by rw [← ea3]) ?_
      refine lv_aload_n hx hb dL_law_2139 rfl (lv_at hl 3 rfl) ?_
      refine lv_iload_n hx hb dL_law_2140 rfl (lv_at hl 0 rfl) ?_
      refine lv_iconst (v := 4) hx hb dL_law_2141 (by decide) ?_
      refine lv_iadd hx hb dL_law_2142 ?_
      refine va_sld hx hb hXs hbl hbA hS (inK t4 (by omega) (by omega)) dL_law_2143 ?_
      refine W.eq (g2 := F0 m 2144 ls [.int a4, .int 2, .int a2, .int a1, .ref h2]) (by rw [← ea4]) ?_
      refine lv_aload_n hx hb dL_law_2144 rfl (lv_at hl 3 rfl) ?_
      refine lv_iload_n hx hb dL_law_2145 rfl (lv_at hl 0 rfl) ?_
      refine lv_iconst (v := 5) hx hb dL_law_2146 (by decide) ?_
      refine lv_iadd hx hb dL_law_2147 ?_
      refine va_sld hx hb hXs hbl hbA hS (inK t5 (by omega) (by omega)) dL_law_2148 ?_
      refine W.eq (g2 := F0 m 2149 ls [.int a5, .int a4, .int 2, .int a2, .int a1, .ref h2]) (by rw [← ea5]) ?_
      refine behDi (wr := (XLW cs h1 Q F A B D)) (runVD (As := [.int a1, .int a2, .int 2, .int a4, .int a5]) (rest := []) ⟨hx, hb, hml, hown, ht⟩ (sX11_paste l G cs h2 q2 MF MA MD MB hM.1 a1 a2 2 a4 a5) okV_RL_279 ⟨(Nat.le_of_ble_eq_true rfl), (Nat.le_of_ble_eq_true rfl)⟩ hK hP hD [101, 102, 103, 104, 105, 106, 107, 108, 109, 110, 111, 112, 113, 114, 115, 116, 117, 118, 119, 120] rfl (by decide +kernel) rfl 101 rfl rfl hl.1 rfl (Nat.le_of_ble_eq_true rfl) dL_law_2149 ⟨(Nat.le_of_ble_eq_true rfl), (Nat.le_of_ble_eq_true rfl)⟩) hP hD hS (fun _ h => h) [101, 102, 103, 104, 105, 106, 107, 108, 109, 110, 111, 112, 113, 114, 115, 116, 117, 118, 119, 120] [0, 1, 2, 3, 4, 5, 6, 7, 8, 9, 10, 11, 12, 13, 14, 15, 16, 17, 18, 19, 20, 21, 22, 23, 24, 25, 26, 27, 28, 29, 30, 31, 32, 33, 34, 35, 36, 37, 38, 39, 40, 41, 42, 43, 44, 45, 46, 47, 48, 49, 50, 51, 52, 53, 54, 55, 56, 57, 58, 59, 60, 61, 62, 63, 64, 65, 66, 67, 68, 69, 70, 71, 72, 73, 74, 75, 76, 77, 78, 79, 80, 81, 82, 83, 84, 85, 86, 87, 88, 89, 90, 91, 92, 93, 94, 95, 96, 97, 98, 99, 100] rfl rfl (by decide +kernel) (by decide +kernel) (fun r9 u H locs hu hP hD hS => ?_)
      obtain ⟨y67, y68⟩ := u
      obtain ⟨r66, rfl⟩ : ∃ z, z = r9 := ⟨_, rfl⟩
      have hr66 := hu
      have kk69 : (2 : Int32).toInt = 2 := by decide
      have hr66 : (r66.toInt = -2 ∧ (a1.toInt < 0 ∨ 3 < a1.toInt ∨ (2 : Int32).toInt < 0 ∨ 3 < (2 : Int32).toInt)) ∨ ((0 ≤ a1.toInt ∧ a1.toInt ≤ 3) ∧ (0 ≤ (2 : Int32).toInt ∧ (2 : Int32).toInt ≤ 3) ∧ (((MA 31) a1.toNatClampNeg).toInt = -1 ∨ ((MA 31) (2 : Int32).toNatClampNeg).toInt = -1) ∧ r66.toInt = -6) ∨ ((0 ≤ a1.toInt ∧ a1.toInt ≤ 3) ∧ (0 ≤ (2 : Int32).toInt ∧ (2 : Int32).toInt ≤ 3) ∧ ¬ ((MA 31) a1.toNatClampNeg).toInt = -1 ∧ ¬ ((MA 31) (2 : Int32).toNatClampNeg).toInt = -1 ∧ ¬ ((MA 32) a1.toNatClampNeg).toInt = ((MA 32) (2 : Int32).toNatClampNeg).toInt ∧ r66.toInt = -8) ∨ ((0 ≤ a1.toInt ∧ a1.toInt ≤ 3) ∧ (0 ≤ (2 : Int32).toInt ∧ (2 : Int32).toInt ≤ 3) ∧ ¬ ((MA 31) a1.toNatClampNeg).toInt = -1 ∧ ¬ ((MA 31) (2 : Int32).toNatClampNeg).toInt = -1 ∧ ((MA 32) a1.toNatClampNeg).toInt = ((MA 32) (2 : Int32).toNatClampNeg).toInt ∧ (a2.toInt < 0 ∨ a4.toInt < 0 ∨ a5.toInt < 0 ∨ ((MA 31) a1.toNatClampNeg).toInt < a2.toInt + a5.toInt ∨ ((MA 31) (2 : Int32).toNatClampNeg).toInt < a4.toInt + a5.toInt) ∧ r66.toInt = -7) ∨ ((0 ≤ a1.toInt ∧ a1.toInt ≤ 3) ∧ (0 ≤ (2 : Int32).toInt ∧ (2 : Int32).toInt ≤ 3) ∧ ¬ ((MA 31) a1.toNatClampNeg).toInt = -1 ∧ ¬ ((MA 31) (2 : Int32).toNatClampNeg).toInt = -1 ∧ ((MA 32) a1.toNatClampNeg).toInt = ((MA 32) (2 : Int32).toNatClampNeg).toInt ∧ ¬ (a2.toInt < 0 ∨ a4.toInt < 0 ∨ a5.toInt < 0 ∨ ((MA 31) a1.toNatClampNeg).toInt < a2.toInt + a5.toInt ∨ ((MA 31) (2 : Int32).toNatClampNeg).toInt < a4.toInt + a5.toInt) ∧ r66.toInt = 0) := hr66
      have hP : va_P G vwCl (LW cs h1 Q h2 q2 F A B D MF MA MD (vA (vA MB 33 y67) 34 y68)) H := hP
      have hD : va_D (fun q : Nat => s.heap.size ≤ q) (LW cs h1 Q h2 q2 F A B D MF MA MD (vA (vA MB 33 y67) 34 y68)) := hD
      have n31_2 : (MA 31 (2 : Int32).toNatClampNeg).toInt = (MA 31 2).toInt := congrArg (fun z => (MA 31 z).toInt) (show (2 : Int32).toNatClampNeg = 2 by decide)
      have n32_2 : (MA 32 (2 : Int32).toNatClampNeg).toInt = (MA 32 2).toInt := congrArg (fun z => (MA 32 z).toInt) (show (2 : Int32).toNatClampNeg = 2 by decide)
      have nsr_2 : ((F 14 1).toInt = 0 ∧ (MA 31 2).toInt = -1) ∨ (¬ (F 14 1).toInt = 0 ∧ (MA 31 2).toInt = (F 14 3).toInt ∧ 0 ≤ (F 14 3).toInt ∧ (MA 32 2).toInt = (F 14 2).toInt) := hR.2.2.2.2.2.1
      refine lv_pop hx hb dL_law_2152 rfl ?_
      refine lv_goto (tgt := 2156) hx hb dL_law_2153 (by decide) ?_
      exact kk F A B D MF MA MD (vA (vA MB 33 y67) 34 y68) H locs ls ⟨hX.1, hX.2.1, hX.2.2.1, hX.2.2.2.1, hX.2.2.2.2.1, hX.2.2.2.2.2.1, hX.2.2.2.2.2.2.1, hX.2.2.2.2.2.2.2.1, hX.2.2.2.2.2.2.2.2.1, hX.2.2.2.2.2.2.2.2.2.1, hX.2.2.2.2.2.2.2.2.2.2.1, hX.2.2.2.2.2.2.2.2.2.2.2.1, hX.2.2.2.2.2.2.2.2.2.2.2.2.1, hX.2.2.2.2.2.2.2.2.2.2.2.2.2.1, hX.2.2.2.2.2.2.2.2.2.2.2.2.2.2.1, hX.2.2.2.2.2.2.2.2.2.2.2.2.2.2.2.1, hX.2.2.2.2.2.2.2.2.2.2.2.2.2.2.2.2.1, hX.2.2.2.2.2.2.2.2.2.2.2.2.2.2.2.2.2.1, hX.2.2.2.2.2.2.2.2.2.2.2.2.2.2.2.2.2.2.1, hX.2.2.2.2.2.2.2.2.2.2.2.2.2.2.2.2.2.2.2.1, hX.2.2.2.2.2.2.2.2.2.2.2.2.2.2.2.2.2.2.2.2.1, hX.2.2.2.2.2.2.2.2.2.2.2.2.2.2.2.2.2.2.2.2.2.1, hX.2.2.2.2.2.2.2.2.2.2.2.2.2.2.2.2.2.2.2.2.2.2.1, hX.2.2.2.2.2.2.2.2.2.2.2.2.2.2.2.2.2.2.2.2.2.2.2.1, hX.2.2.2.2.2.2.2.2.2.2.2.2.2.2.2.2.2.2.2.2.2.2.2.2.1, hX.2.2.2.2.2.2.2.2.2.2.2.2.2.2.2.2.2.2.2.2.2.2.2.2.2.1, hX.2.2.2.2.2.2.2.2.2.2.2.2.2.2.2.2.2.2.2.2.2.2.2.2.2.2⟩ ⟨hM.1, hM.2.1, hM.2.2⟩ hR hP hD hS hl
    · have bb70 := i32b a1
      refine behR (runVP (As := [.int a1, .int a2, .int 3, .int a4, .int a5]) (rest := []) ⟨hx, hb, hml, hown, ht⟩ (sX10_paste_hi l G cs h1 (Q 0) (F 0) (A 0) (B 0) (D 0) hX.1 a1 a2 3 a4 a5 (by omega)) okV_RL_276 ⟨(Nat.le_of_ble_eq_true rfl), (Nat.le_of_ble_eq_true rfl)⟩ hK hP [0, 1, 2] rfl 0 rfl rfl hl.1 rfl (Nat.le_of_ble_eq_true rfl) dL_law_2119 ⟨(Nat.le_of_ble_eq_true rfl), (Nat.le_of_ble_eq_true rfl)⟩) hP hS (fun _ h => h) (fun r71 H locs hr71 hP hS => ?_)
      have kk72 : (3 : Int32).toInt = 3 := by decide
      have hr71 : r71.toInt = -2 := hr71
      refine lv_pop hx hb dL_law_2122 rfl ?_
      refine lv_aload_n hx hb dL_law_2123 rfl (lv_at hl 1 rfl) ?_
      refine lv_aload_n hx hb dL_law_2124 rfl (lv_at hl 3 rfl) ?_
      refine lv_iload_n hx hb dL_law_2125 rfl (lv_at hl 0 rfl) ?_
      refine lv_iconst (v := 1) hx hb dL_law_2126 (by decide) ?_
      refine lv_iadd hx hb dL_law_2127 ?_
      refine va_sld hx hb hXs hbl hbA hS (inK t1 (by omega) (by omega)) dL_law_2128 ?_
      refine W.eq (g2 := F0 m 2129 ls [.int a1, .ref h2]) (by rw [← ea1]) ?_
      refine lv_aload_n hx hb dL_law_2129 rfl (lv_at hl 3 rfl) ?_
      refine lv_iload_n hx hb dL_law_2130 rfl (lv_at hl 0 rfl) ?_
      refine lv_iconst (v := 2) hx hb dL_law_2131 (by decide) ?_
      refine lv_iadd hx hb dL_law_2132 ?_
      refine va_sld hx hb hXs hbl hbA hS (inK t2 (by omega) (by omega)) dL_law_2133 ?_
      refine W.eq (g2 := F0 m 2134 ls [.int a2, .int a1, .ref h2]) (by rw [← ea2]) ?_
      refine lv_aload_n hx hb dL_law_2134 rfl (lv_at hl 3 rfl) ?_
      refine lv_iload_n hx hb dL_law_2135 rfl (lv_at hl 0 rfl) ?_
      refine lv_iconst (v := 3) hx hb dL_law_2136 (by decide) ?_
      refine lv_iadd hx hb dL_law_2137 ?_
      refine va_sld hx hb hXs hbl hbA hS (inK t3 (by omega) (by omega)) dL_law_2138 ?_
      refine W.eq (g2 := F0 m 2139 ls [.int 3, .int a2, .int a1, .ref h2]) (by rw [← ea3]) ?_
      refine lv_aload_n hx hb dL_law_2139 rfl (lv_at hl 3 rfl) ?_
      refine lv_iload_n hx hb dL_law_2140 rfl (lv_at hl 0 rfl) ?_
      refine lv_iconst (v := 4) hx hb dL_law_2141 (by decide) ?_
      refine lv_iadd hx hb dL_law_2142 ?_
      refine va_sld hx hb hXs hbl hbA hS (inK t4 (by omega) (by omega)) dL_law_2143 ?_
      refine W.eq (g2 := F0 m 2144 ls [.int a4, .int 3, .int a2, .int a1, .ref h2]) (by rw [← ea4]) ?_
      refine lv_aload_n hx hb dL_law_2144 rfl (lv_at hl 3 rfl) ?_
      refine lv_iload_n hx hb dL_law_2145 rfl (lv_at hl 0 rfl) ?_
      refine lv_iconst (v := 5) hx hb dL_law_2146 (by decide) ?_
      refine lv_iadd hx hb dL_law_2147 ?_
      refine va_sld hx hb hXs hbl hbA hS (inK t5 (by omega) (by omega)) dL_law_2148 ?_
      refine W.eq (g2 := F0 m 2149 ls [.int a5, .int a4, .int 3, .int a2, .int a1, .ref h2]) (by rw [← ea5]) ?_
      refine behDi (wr := (XLW cs h1 Q F A B D)) (runVD (As := [.int a1, .int a2, .int 3, .int a4, .int a5]) (rest := []) ⟨hx, hb, hml, hown, ht⟩ (sX11_paste l G cs h2 q2 MF MA MD MB hM.1 a1 a2 3 a4 a5) okV_RL_279 ⟨(Nat.le_of_ble_eq_true rfl), (Nat.le_of_ble_eq_true rfl)⟩ hK hP hD [101, 102, 103, 104, 105, 106, 107, 108, 109, 110, 111, 112, 113, 114, 115, 116, 117, 118, 119, 120] rfl (by decide +kernel) rfl 101 rfl rfl hl.1 rfl (Nat.le_of_ble_eq_true rfl) dL_law_2149 ⟨(Nat.le_of_ble_eq_true rfl), (Nat.le_of_ble_eq_true rfl)⟩) hP hD hS (fun _ h => h) [101, 102, 103, 104, 105, 106, 107, 108, 109, 110, 111, 112, 113, 114, 115, 116, 117, 118, 119, 120] [0, 1, 2, 3, 4, 5, 6, 7, 8, 9, 10, 11, 12, 13, 14, 15, 16, 17, 18, 19, 20, 21, 22, 23, 24, 25, 26, 27, 28, 29, 30, 31, 32, 33, 34, 35, 36, 37, 38, 39, 40, 41, 42, 43, 44, 45, 46, 47, 48, 49, 50, 51, 52, 53, 54, 55, 56, 57, 58, 59, 60, 61, 62, 63, 64, 65, 66, 67, 68, 69, 70, 71, 72, 73, 74, 75, 76, 77, 78, 79, 80, 81, 82, 83, 84, 85, 86, 87, 88, 89, 90, 91, 92, 93, 94, 95, 96, 97, 98, 99, 100] rfl rfl (by decide +kernel) (by decide +kernel) (fun r9 u H locs hu hP hD hS => ?_)
      obtain ⟨y74, y75⟩ := u
      obtain ⟨r73, rfl⟩ : ∃ z, z = r9 := ⟨_, rfl⟩
      have hr73 := hu
      have kk76 : (3 : Int32).toInt = 3 := by decide
      have hr73 : (r73.toInt = -2 ∧ (a1.toInt < 0 ∨ 3 < a1.toInt ∨ (3 : Int32).toInt < 0 ∨ 3 < (3 : Int32).toInt)) ∨ ((0 ≤ a1.toInt ∧ a1.toInt ≤ 3) ∧ (0 ≤ (3 : Int32).toInt ∧ (3 : Int32).toInt ≤ 3) ∧ (((MA 31) a1.toNatClampNeg).toInt = -1 ∨ ((MA 31) (3 : Int32).toNatClampNeg).toInt = -1) ∧ r73.toInt = -6) ∨ ((0 ≤ a1.toInt ∧ a1.toInt ≤ 3) ∧ (0 ≤ (3 : Int32).toInt ∧ (3 : Int32).toInt ≤ 3) ∧ ¬ ((MA 31) a1.toNatClampNeg).toInt = -1 ∧ ¬ ((MA 31) (3 : Int32).toNatClampNeg).toInt = -1 ∧ ¬ ((MA 32) a1.toNatClampNeg).toInt = ((MA 32) (3 : Int32).toNatClampNeg).toInt ∧ r73.toInt = -8) ∨ ((0 ≤ a1.toInt ∧ a1.toInt ≤ 3) ∧ (0 ≤ (3 : Int32).toInt ∧ (3 : Int32).toInt ≤ 3) ∧ ¬ ((MA 31) a1.toNatClampNeg).toInt = -1 ∧ ¬ ((MA 31) (3 : Int32).toNatClampNeg).toInt = -1 ∧ ((MA 32) a1.toNatClampNeg).toInt = ((MA 32) (3 : Int32).toNatClampNeg).toInt ∧ (a2.toInt < 0 ∨ a4.toInt < 0 ∨ a5.toInt < 0 ∨ ((MA 31) a1.toNatClampNeg).toInt < a2.toInt + a5.toInt ∨ ((MA 31) (3 : Int32).toNatClampNeg).toInt < a4.toInt + a5.toInt) ∧ r73.toInt = -7) ∨ ((0 ≤ a1.toInt ∧ a1.toInt ≤ 3) ∧ (0 ≤ (3 : Int32).toInt ∧ (3 : Int32).toInt ≤ 3) ∧ ¬ ((MA 31) a1.toNatClampNeg).toInt = -1 ∧ ¬ ((MA 31) (3 : Int32).toNatClampNeg).toInt = -1 ∧ ((MA 32) a1.toNatClampNeg).toInt = ((MA 32) (3 : Int32).toNatClampNeg).toInt ∧ ¬ (a2.toInt < 0 ∨ a4.toInt < 0 ∨ a5.toInt < 0 ∨ ((MA 31) a1.toNatClampNeg).toInt < a2.toInt + a5.toInt ∨ ((MA 31) (3 : Int32).toNatClampNeg).toInt < a4.toInt + a5.toInt) ∧ r73.toInt = 0) := hr73
      have hP : va_P G vwCl (LW cs h1 Q h2 q2 F A B D MF MA MD (vA (vA MB 33 y74) 34 y75)) H := hP
      have hD : va_D (fun q : Nat => s.heap.size ≤ q) (LW cs h1 Q h2 q2 F A B D MF MA MD (vA (vA MB 33 y74) 34 y75)) := hD
      have n31_3 : (MA 31 (3 : Int32).toNatClampNeg).toInt = (MA 31 3).toInt := congrArg (fun z => (MA 31 z).toInt) (show (3 : Int32).toNatClampNeg = 3 by decide)
      have n32_3 : (MA 32 (3 : Int32).toNatClampNeg).toInt = (MA 32 3).toInt := congrArg (fun z => (MA 32 z).toInt) (show (3 : Int32).toNatClampNeg = 3 by decide)
      have nsr_3 : ((F 15 1).toInt = 0 ∧ (MA 31 3).toInt = -1) ∨ (¬ (F 15 1).toInt = 0 ∧ (MA 31 3).toInt = (F 15 3).toInt ∧ 0 ≤ (F 15 3).toInt ∧ (MA 32 3).toInt = (F 15 2).toInt) := hR.2.2.2.2.2.2
      refine lv_pop hx hb dL_law_2152 rfl ?_
      refine lv_goto (tgt := 2156) hx hb dL_law_2153 (by decide) ?_
      exact kk F A B D MF MA MD (vA (vA MB 33 y74) 34 y75) H locs ls ⟨hX.1, hX.2.1, hX.2.2.1, hX.2.2.2.1, hX.2.2.2.2.1, hX.2.2.2.2.2.1, hX.2.2.2.2.2.2.1, hX.2.2.2.2.2.2.2.1, hX.2.2.2.2.2.2.2.2.1, hX.2.2.2.2.2.2.2.2.2.1, hX.2.2.2.2.2.2.2.2.2.2.1, hX.2.2.2.2.2.2.2.2.2.2.2.1, hX.2.2.2.2.2.2.2.2.2.2.2.2.1, hX.2.2.2.2.2.2.2.2.2.2.2.2.2.1, hX.2.2.2.2.2.2.2.2.2.2.2.2.2.2.1, hX.2.2.2.2.2.2.2.2.2.2.2.2.2.2.2.1, hX.2.2.2.2.2.2.2.2.2.2.2.2.2.2.2.2.1, hX.2.2.2.2.2.2.2.2.2.2.2.2.2.2.2.2.2.1, hX.2.2.2.2.2.2.2.2.2.2.2.2.2.2.2.2.2.2.1, hX.2.2.2.2.2.2.2.2.2.2.2.2.2.2.2.2.2.2.2.1, hX.2.2.2.2.2.2.2.2.2.2.2.2.2.2.2.2.2.2.2.2.1, hX.2.2.2.2.2.2.2.2.2.2.2.2.2.2.2.2.2.2.2.2.2.1, hX.2.2.2.2.2.2.2.2.2.2.2.2.2.2.2.2.2.2.2.2.2.2.1, hX.2.2.2.2.2.2.2.2.2.2.2.2.2.2.2.2.2.2.2.2.2.2.2.1, hX.2.2.2.2.2.2.2.2.2.2.2.2.2.2.2.2.2.2.2.2.2.2.2.2.1, hX.2.2.2.2.2.2.2.2.2.2.2.2.2.2.2.2.2.2.2.2.2.2.2.2.2.1, hX.2.2.2.2.2.2.2.2.2.2.2.2.2.2.2.2.2.2.2.2.2.2.2.2.2.2⟩ ⟨hM.1, hM.2.1, hM.2.2⟩ hR hP hD hS hl
  · rcases csN4 a3 with hN | hN | rfl | rfl | rfl | rfl
    · have bb77 := i32b a3
      refine behR (runVP (As := [.int 0, .int a2, .int a3, .int a4, .int a5]) (rest := []) ⟨hx, hb, hml, hown, ht⟩ (sX10_paste_tolo l G cs h1 (Q 0) (F 0) (A 0) (B 0) (D 0) hX.1 0 a2 a3 a4 a5 (by decide) (by omega)) okV_RL_276 ⟨(Nat.le_of_ble_eq_true rfl), (Nat.le_of_ble_eq_true rfl)⟩ hK hP [0, 1, 2] rfl 0 rfl rfl hl.1 rfl (Nat.le_of_ble_eq_true rfl) dL_law_2119 ⟨(Nat.le_of_ble_eq_true rfl), (Nat.le_of_ble_eq_true rfl)⟩) hP hS (fun _ h => h) (fun r78 H locs hr78 hP hS => ?_)
      have kk79 : (0 : Int32).toInt = 0 := by decide
      have hr78 : r78.toInt = -2 := hr78
      refine lv_pop hx hb dL_law_2122 rfl ?_
      refine lv_aload_n hx hb dL_law_2123 rfl (lv_at hl 1 rfl) ?_
      refine lv_aload_n hx hb dL_law_2124 rfl (lv_at hl 3 rfl) ?_
      refine lv_iload_n hx hb dL_law_2125 rfl (lv_at hl 0 rfl) ?_
      refine lv_iconst (v := 1) hx hb dL_law_2126 (by decide) ?_
      refine lv_iadd hx hb dL_law_2127 ?_
      refine va_sld hx hb hXs hbl hbA hS (inK t1 (by omega) (by omega)) dL_law_2128 ?_
      refine W.eq (g2 := F0 m 2129 ls [.int 0, .ref h2]) (by rw [← ea1]) ?_
      refine lv_aload_n hx hb dL_law_2129 rfl (lv_at hl 3 rfl) ?_
      refine lv_iload_n hx hb dL_law_2130 rfl (lv_at hl 0 rfl) ?_
      refine lv_iconst (v := 2) hx hb dL_law_2131 (by decide) ?_
      refine lv_iadd hx hb dL_law_2132 ?_
      refine va_sld hx hb hXs hbl hbA hS (inK t2 (by omega) (by omega)) dL_law_2133 ?_
      refine W.eq (g2 := F0 m 2134 ls [.int a2, .int 0, .ref h2]) (by rw [← ea2]) ?_
      refine lv_aload_n hx hb dL_law_2134 rfl (lv_at hl 3 rfl) ?_
      refine lv_iload_n hx hb dL_law_2135 rfl (lv_at hl 0 rfl) ?_
      refine lv_iconst (v := 3) hx hb dL_law_2136 (by decide) ?_
      refine lv_iadd hx hb dL_law_2137 ?_
      refine va_sld hx hb hXs hbl hbA hS (inK t3 (by omega) (by omega)) dL_law_2138 ?_
      refine W.eq (g2 := F0 m 2139 ls [.int a3, .int a2, .int 0, .ref h2]) (by rw [← ea3]) ?_
      refine lv_aload_n hx hb dL_law_2139 rfl (lv_at hl 3 rfl) ?_
      refine lv_iload_n hx hb dL_law_2140 rfl (lv_at hl 0 rfl) ?_
      refine lv_iconst (v := 4) hx hb dL_law_2141 (by decide) ?_
      refine lv_iadd hx hb dL_law_2142 ?_
      refine va_sld hx hb hXs hbl hbA hS (inK t4 (by omega) (by omega)) dL_law_2143 ?_
      refine W.eq (g2 := F0 m 2144 ls [.int a4, .int a3, .int a2, .int 0, .ref h2]) (by rw [← ea4]) ?_
      refine lv_aload_n hx hb dL_law_2144 rfl (lv_at hl 3 rfl) ?_
      refine lv_iload_n hx hb dL_law_2145 rfl (lv_at hl 0 rfl) ?_
      refine lv_iconst (v := 5) hx hb dL_law_2146 (by decide) ?_
      refine lv_iadd hx hb dL_law_2147 ?_
      refine va_sld hx hb hXs hbl hbA hS (inK t5 (by omega) (by omega)) dL_law_2148 ?_
      refine W.eq (g2 := F0 m 2149 ls [.int a5, .int a4, .int a3, .int a2, .int 0, .ref h2]) (by rw [← ea5]) ?_
      refine behDi (wr := (XLW cs h1 Q F A B D)) (runVD (As := [.int 0, .int a2, .int a3, .int a4, .int a5]) (rest := []) ⟨hx, hb, hml, hown, ht⟩ (sX11_paste l G cs h2 q2 MF MA MD MB hM.1 0 a2 a3 a4 a5) okV_RL_279 ⟨(Nat.le_of_ble_eq_true rfl), (Nat.le_of_ble_eq_true rfl)⟩ hK hP hD [101, 102, 103, 104, 105, 106, 107, 108, 109, 110, 111, 112, 113, 114, 115, 116, 117, 118, 119, 120] rfl (by decide +kernel) rfl 101 rfl rfl hl.1 rfl (Nat.le_of_ble_eq_true rfl) dL_law_2149 ⟨(Nat.le_of_ble_eq_true rfl), (Nat.le_of_ble_eq_true rfl)⟩) hP hD hS (fun _ h => h) [101, 102, 103, 104, 105, 106, 107, 108, 109, 110, 111, 112, 113, 114, 115, 116, 117, 118, 119, 120] [0, 1, 2, 3, 4, 5, 6, 7, 8, 9, 10, 11, 12, 13, 14, 15, 16, 17, 18, 19, 20, 21, 22, 23, 24, 25, 26, 27, 28, 29, 30, 31, 32, 33, 34, 35, 36, 37, 38, 39, 40, 41, 42, 43, 44, 45, 46, 47, 48, 49, 50, 51, 52, 53, 54, 55, 56, 57, 58, 59, 60, 61, 62, 63, 64, 65, 66, 67, 68, 69, 70, 71, 72, 73, 74, 75, 76, 77, 78, 79, 80, 81, 82, 83, 84, 85, 86, 87, 88, 89, 90, 91, 92, 93, 94, 95, 96, 97, 98, 99, 100] rfl rfl (by decide +kernel) (by decide +kernel) (fun r9 u H locs hu hP hD hS => ?_)
      obtain ⟨y81, y82⟩ := u
      obtain ⟨r80, rfl⟩ : ∃ z, z = r9 := ⟨_, rfl⟩
      have hr80 := hu
      have kk83 : (0 : Int32).toInt = 0 := by decide
      have hr80 : (r80.toInt = -2 ∧ ((0 : Int32).toInt < 0 ∨ 3 < (0 : Int32).toInt ∨ a3.toInt < 0 ∨ 3 < a3.toInt)) ∨ ((0 ≤ (0 : Int32).toInt ∧ (0 : Int32).toInt ≤ 3) ∧ (0 ≤ a3.toInt ∧ a3.toInt ≤ 3) ∧ (((MA 31) (0 : Int32).toNatClampNeg).toInt = -1 ∨ ((MA 31) a3.toNatClampNeg).toInt = -1) ∧ r80.toInt = -6) ∨ ((0 ≤ (0 : Int32).toInt ∧ (0 : Int32).toInt ≤ 3) ∧ (0 ≤ a3.toInt ∧ a3.toInt ≤ 3) ∧ ¬ ((MA 31) (0 : Int32).toNatClampNeg).toInt = -1 ∧ ¬ ((MA 31) a3.toNatClampNeg).toInt = -1 ∧ ¬ ((MA 32) (0 : Int32).toNatClampNeg).toInt = ((MA 32) a3.toNatClampNeg).toInt ∧ r80.toInt = -8) ∨ ((0 ≤ (0 : Int32).toInt ∧ (0 : Int32).toInt ≤ 3) ∧ (0 ≤ a3.toInt ∧ a3.toInt ≤ 3) ∧ ¬ ((MA 31) (0 : Int32).toNatClampNeg).toInt = -1 ∧ ¬ ((MA 31) a3.toNatClampNeg).toInt = -1 ∧ ((MA 32) (0 : Int32).toNatClampNeg).toInt = ((MA 32) a3.toNatClampNeg).toInt ∧ (a2.toInt < 0 ∨ a4.toInt < 0 ∨ a5.toInt < 0 ∨ ((MA 31) (0 : Int32).toNatClampNeg).toInt < a2.toInt + a5.toInt ∨ ((MA 31) a3.toNatClampNeg).toInt < a4.toInt + a5.toInt) ∧ r80.toInt = -7) ∨ ((0 ≤ (0 : Int32).toInt ∧ (0 : Int32).toInt ≤ 3) ∧ (0 ≤ a3.toInt ∧ a3.toInt ≤ 3) ∧ ¬ ((MA 31) (0 : Int32).toNatClampNeg).toInt = -1 ∧ ¬ ((MA 31) a3.toNatClampNeg).toInt = -1 ∧ ((MA 32) (0 : Int32).toNatClampNeg).toInt = ((MA 32) a3.toNatClampNeg).toInt ∧ ¬ (a2.toInt < 0 ∨ a4.toInt < 0 ∨ a5.toInt < 0 ∨ ((MA 31) (0 : Int32).toNatClampNeg).toInt < a2.toInt + a5.toInt ∨ ((MA 31) a3.toNatClampNeg).toInt < a4.toInt + a5.toInt) ∧ r80.toInt = 0) := hr80
      have hP : va_P G vwCl (LW cs h1 Q h2 q2 F A B D MF MA MD (vA (vA MB 33 y81) 34 y82)) H := hP
      have hD : va_D (fun q : Nat => s.heap.size ≤ q) (LW cs h1 Q h2 q2 F A B D MF MA MD (vA (vA MB 33 y81) 34 y82)) := hD
      have n31_0 : (MA 31 (0 : Int32).toNatClampNeg).toInt = (MA 31 0).toInt := congrArg (fun z => (MA 31 z).toInt) (show (0 : Int32).toNatClampNeg = 0 by decide)
      have n32_0 : (MA 32 (0 : Int32).toNatClampNeg).toInt = (MA 32 0).toInt := congrArg (fun z => (MA 32 z).toInt) (show (0 : Int32).toNatClampNeg = 0 by decide)
      have nsr_0 : ((F 12 1).toInt = 0 ∧ (MA 31 0).toInt = -1) ∨ (¬ (F 12 1).toInt = 0 ∧ (MA 31 0).toInt = (F 12 3).toInt ∧ 0 ≤ (F 12 3).toInt ∧ (MA 32 0).toInt = (F 12 2).toInt) := hR.2.2.2.1
      refine lv_pop hx hb dL_law_2152 rfl ?_
      refine lv_goto (tgt := 2156) hx hb dL_law_2153 (by decide) ?_
      exact kk F A B D MF MA MD (vA (vA MB 33 y81) 34 y82) H locs ls ⟨hX.1, hX.2.1, hX.2.2.1, hX.2.2.2.1, hX.2.2.2.2.1, hX.2.2.2.2.2.1, hX.2.2.2.2.2.2.1, hX.2.2.2.2.2.2.2.1, hX.2.2.2.2.2.2.2.2.1, hX.2.2.2.2.2.2.2.2.2.1, hX.2.2.2.2.2.2.2.2.2.2.1, hX.2.2.2.2.2.2.2.2.2.2.2.1, hX.2.2.2.2.2.2.2.2.2.2.2.2.1, hX.2.2.2.2.2.2.2.2.2.2.2.2.2.1, hX.2.2.2.2.2.2.2.2.2.2.2.2.2.2.1, hX.2.2.2.2.2.2.2.2.2.2.2.2.2.2.2.1, hX.2.2.2.2.2.2.2.2.2.2.2.2.2.2.2.2.1, hX.2.2.2.2.2.2.2.2.2.2.2.2.2.2.2.2.2.1, hX.2.2.2.2.2.2.2.2.2.2.2.2.2.2.2.2.2.2.1, hX.2.2.2.2.2.2.2.2.2.2.2.2.2.2.2.2.2.2.2.1, hX.2.2.2.2.2.2.2.2.2.2.2.2.2.2.2.2.2.2.2.2.1, hX.2.2.2.2.2.2.2.2.2.2.2.2.2.2.2.2.2.2.2.2.2.1, hX.2.2.2.2.2.2.2.2.2.2.2.2.2.2.2.2.2.2.2.2.2.2.1, hX.2.2.2.2.2.2.2.2.2.2.2.2.2.2.2.2.2.2.2.2.2.2.2.1, hX.2.2.2.2.2.2.2.2.2.2.2.2.2.2.2.2.2.2.2.2.2.2.2.2.1, hX.2.2.2.2.2.2.2.2.2.2.2.2.2.2.2.2.2.2.2.2.2.2.2.2.2.1, hX.2.2.2.2.2.2.2.2.2.2.2.2.2.2.2.2.2.2.2.2.2.2.2.2.2.2⟩ ⟨hM.1, hM.2.1, hM.2.2⟩ hR hP hD hS hl
    · have bb84 := i32b a3
      refine behR (runVP (As := [.int 0, .int a2, .int a3, .int a4, .int a5]) (rest := []) ⟨hx, hb, hml, hown, ht⟩ (sX10_paste_tohi l G cs h1 (Q 0) (F 0) (A 0) (B 0) (D 0) hX.1 0 a2 a3 a4 a5 (by decide) (by omega)) okV_RL_276 ⟨(Nat.le_of_ble_eq_true rfl), (Nat.le_of_ble_eq_true rfl)⟩ hK hP [0, 1, 2] rfl 0 rfl rfl hl.1 rfl (Nat.le_of_ble_eq_true rfl) dL_law_2119 ⟨(Nat.le_of_ble_eq_true rfl), (Nat.le_of_ble_eq_true rfl)⟩) hP hS (fun _ h => h) (fun r85 H locs hr85 hP hS => ?_)
      have kk86 : (0 : Int32).toInt = 0 := by decide
      have hr85 : r85.toInt = -2 := hr85
      refine lv_pop hx hb dL_law_2122 rfl ?_
      refine lv_aload_n hx hb dL_law_2123 rfl (lv_at hl 1 rfl) ?_
      refine lv_aload_n hx hb dL_law_2124 rfl (lv_at hl 3 rfl) ?_
      refine lv_iload_n hx hb dL_law_2125 rfl (lv_at hl 0 rfl) ?_
      refine lv_iconst (v := 1) hx hb dL_law_2126 (by decide) ?_
      refine lv_iadd hx hb dL_law_2127 ?_
      refine va_sld hx hb hXs hbl hbA hS (inK t1 (by omega) (by omega)) dL_law_2128 ?_
      refine W.eq (g2 := F0 m 2129 ls [.int 0, .ref h2]) (by rw [← ea1]) ?_
      refine lv_aload_n hx hb dL_law_2129 rfl (lv_at hl 3 rfl) ?_
      refine lv_iload_n hx hb dL_law_2130 rfl (lv_at hl 0 rfl) ?_
      refine lv_iconst (v := 2) hx hb dL_law_2131 (by decide) ?_
      refine lv_iadd hx hb dL_law_2132 ?_
      refine va_sld hx hb hXs hbl hbA hS (inK t2 (by omega) (by omega)) dL_law_2133 ?_
      refine W.eq (g2 := F0 m 2134 ls [.int a2, .int 0, .ref h2]) (by rw [← ea2]) ?_
      refine lv_aload_n hx hb dL_law_2134 rfl (lv_at hl 3 rfl) ?_
      refine lv_iload_n hx hb dL_law_2135 rfl (lv_at hl 0 rfl) ?_
      refine lv_iconst (v := 3) hx hb dL_law_2136 (by decide) ?_
      refine lv_iadd hx hb dL_law_2137 ?_
      refine va_sld hx hb hXs hbl hbA hS (inK t3 (by omega) (by omega)) dL_law_2138 ?_
      refine W.eq (g2 := F0 m 2139 ls [.int a3, .int a2, .int 0, .ref h2]) (by rw [← ea3]) ?_
      refine lv_aload_n hx hb dL_law_2139 rfl (lv_at hl 3 rfl) ?_
      refine lv_iload_n hx hb dL_law_2140 rfl (lv_at hl 0 rfl) ?_
      refine lv_iconst (v := 4) hx hb dL_law_2141 (by decide) ?_
      refine lv_iadd hx hb dL_law_2142 ?_
      refine va_sld hx hb hXs hbl hbA hS (inK t4 (by omega) (by omega)) dL_law_2143 ?_
      refine W.eq (g2 := F0 m 2144 ls [.int a4, .int a3, .int a2, .int 0, .ref h2]) (by rw [← ea4]) ?_
      refine lv_aload_n hx hb dL_law_2144 rfl (lv_at hl 3 rfl) ?_
      refine lv_iload_n hx hb dL_law_2145 rfl (lv_at hl 0 rfl) ?_
      refine lv_iconst (v := 5) hx hb dL_law_2146 (by decide) ?_
      refine lv_iadd hx hb dL_law_2147 ?_
      refine va_sld hx hb hXs hbl hbA hS (inK t5 (by omega) (by omega)) dL_law_2148 ?_
      refine W.eq (g2 := F0 m 2149 ls [.int a5, .int a4, .int a3, .int a2, .int 0, .ref h2]) (by rw [← ea5]) ?_
      refine behDi (wr := (XLW cs h1 Q F A B D)) (runVD (As := [.int 0, .int a2, .int a3, .int a4, .int a5]) (rest := []) ⟨hx, hb, hml, hown, ht⟩ (sX11_paste l G cs h2 q2 MF MA MD MB hM.1 0 a2 a3 a4 a5) okV_RL_279 ⟨(Nat.le_of_ble_eq_true rfl), (Nat.le_of_ble_eq_true rfl)⟩ hK hP hD [101, 102, 103, 104, 105, 106, 107, 108, 109, 110, 111, 112, 113, 114, 115, 116, 117, 118, 119, 120] rfl (by decide +kernel) rfl 101 rfl rfl hl.1 rfl (Nat.le_of_ble_eq_true rfl) dL_law_2149 ⟨(Nat.le_of_ble_eq_true rfl), (Nat.le_of_ble_eq_true rfl)⟩) hP hD hS (fun _ h => h) [101, 102, 103, 104, 105, 106, 107, 108, 109, 110, 111, 112, 113, 114, 115, 116, 117, 118, 119, 120] [0, 1, 2, 3, 4, 5, 6, 7, 8, 9, 10, 11, 12, 13, 14, 15, 16, 17, 18, 19, 20, 21, 22, 23, 24, 25, 26, 27, 28, 29, 30, 31, 32, 33, 34, 35, 36, 37, 38, 39, 40, 41, 42, 43, 44, 45, 46, 47, 48, 49, 50, 51, 52, 53, 54, 55, 56, 57, 58, 59, 60, 61, 62, 63, 64, 65, 66, 67, 68, 69, 70, 71, 72, 73, 74, 75, 76, 77, 78, 79, 80, 81, 82, 83, 84, 85, 86, 87, 88, 89, 90, 91, 92, 93, 94, 95, 96, 97, 98, 99, 100] rfl rfl (by decide +kernel) (by decide +kernel) (fun r9 u H locs hu hP hD hS => ?_)
      obtain ⟨y88, y89⟩ := u
      obtain ⟨r87, rfl⟩ : ∃ z, z = r9 := ⟨_, rfl⟩
      have hr87 := hu
      have kk90 : (0 : Int32).toInt = 0 := by decide
      have hr87 : (r87.toInt = -2 ∧ ((0 : Int32).toInt < 0 ∨ 3 < (0 : Int32).toInt ∨ a3.toInt < 0 ∨ 3 < a3.toInt)) ∨ ((0 ≤ (0 : Int32).toInt ∧ (0 : Int32).toInt ≤ 3) ∧ (0 ≤ a3.toInt ∧ a3.toInt ≤ 3) ∧ (((MA 31) (0 : Int32).toNatClampNeg).toInt = -1 ∨ ((MA 31) a3.toNatClampNeg).toInt = -1) ∧ r87.toInt = -6) ∨ ((0 ≤ (0 : Int32).toInt ∧ (0 : Int32).toInt ≤ 3) ∧ (0 ≤ a3.toInt ∧ a3.toInt ≤ 3) ∧ ¬ ((MA 31) (0 : Int32).toNatClampNeg).toInt = -1 ∧ ¬ ((MA 31) a3.toNatClampNeg).toInt = -1 ∧ ¬ ((MA 32) (0 : Int32).toNatClampNeg).toInt = ((MA 32) a3.toNatClampNeg).toInt ∧ r87.toInt = -8) ∨ ((0 ≤ (0 : Int32).toInt ∧ (0 : Int32).toInt ≤ 3) ∧ (0 ≤ a3.toInt ∧ a3.toInt ≤ 3) ∧ ¬ ((MA 31) (0 : Int32).toNatClampNeg).toInt = -1 ∧ ¬ ((MA 31) a3.toNatClampNeg).toInt = -1 ∧ ((MA 32) (0 : Int32).toNatClampNeg).toInt = ((MA 32) a3.toNatClampNeg).toInt ∧ (a2.toInt < 0 ∨ a4.toInt < 0 ∨ a5.toInt < 0 ∨ ((MA 31) (0 : Int32).toNatClampNeg).toInt < a2.toInt + a5.toInt ∨ ((MA 31) a3.toNatClampNeg).toInt < a4.toInt + a5.toInt) ∧ r87.toInt = -7) ∨ ((0 ≤ (0 : Int32).toInt ∧ (0 : Int32).toInt ≤ 3) ∧ (0 ≤ a3.toInt ∧ a3.toInt ≤ 3) ∧ ¬ ((MA 31) (0 : Int32).toNatClampNeg).toInt = -1 ∧ ¬ ((MA 31) a3.toNatClampNeg).toInt = -1 ∧ ((MA 32) (0 : Int32).toNatClampNeg).toInt = ((MA 32) a3.toNatClampNeg).toInt ∧ ¬ (a2.toInt < 0 ∨ a4.toInt < 0 ∨ a5.toInt < 0 ∨ ((MA 31) (0 : Int32).toNatClampNeg).toInt < a2.toInt + a5.toInt ∨ ((MA 31) a3.toNatClampNeg).toInt < a4.toInt + a5.toInt) ∧ r87.toInt = 0) := hr87
      have hP : va_P G vwCl (LW cs h1 Q h2 q2 F A B D MF MA MD (vA (vA MB 33 y88) 34 y89)) H := hP
      have hD : va_D (fun q : Nat => s.heap.size ≤ q) (LW cs h1 Q h2 q2 F A B D MF MA MD (vA (vA MB 33 y88) 34 y89)) := hD
      have n31_0 : (MA 31 (0 : Int32).toNatClampNeg).toInt = (MA 31 0).toInt := congrArg (fun z => (MA 31 z).toInt) (show (0 : Int32).toNatClampNeg = 0 by decide)
      have n32_0 : (MA 32 (0 : Int32).toNatClampNeg).toInt = (MA 32 0).toInt := congrArg (fun z => (MA 32 z).toInt) (show (0 : Int32).toNatClampNeg = 0 by decide)
      have nsr_0 : ((F 12 1).toInt = 0 ∧ (MA 31 0).toInt = -1) ∨ (¬ (F 12 1).toInt = 0 ∧ (MA 31 0).toInt = (F 12 3).toInt ∧ 0 ≤ (F 12 3).toInt ∧ (MA 32 0).toInt = (F 12 2).toInt) := hR.2.2.2.1
      refine lv_pop hx hb dL_law_2152 rfl ?_
      refine lv_goto (tgt := 2156) hx hb dL_law_2153 (by decide) ?_
      exact kk F A B D MF MA MD (vA (vA MB 33 y88) 34 y89) H locs ls ⟨hX.1, hX.2.1, hX.2.2.1, hX.2.2.2.1, hX.2.2.2.2.1, hX.2.2.2.2.2.1, hX.2.2.2.2.2.2.1, hX.2.2.2.2.2.2.2.1, hX.2.2.2.2.2.2.2.2.1, hX.2.2.2.2.2.2.2.2.2.1, hX.2.2.2.2.2.2.2.2.2.2.1, hX.2.2.2.2.2.2.2.2.2.2.2.1, hX.2.2.2.2.2.2.2.2.2.2.2.2.1, hX.2.2.2.2.2.2.2.2.2.2.2.2.2.1, hX.2.2.2.2.2.2.2.2.2.2.2.2.2.2.1, hX.2.2.2.2.2.2.2.2.2.2.2.2.2.2.2.1, hX.2.2.2.2.2.2.2.2.2.2.2.2.2.2.2.2.1, hX.2.2.2.2.2.2.2.2.2.2.2.2.2.2.2.2.2.1, hX.2.2.2.2.2.2.2.2.2.2.2.2.2.2.2.2.2.2.1, hX.2.2.2.2.2.2.2.2.2.2.2.2.2.2.2.2.2.2.2.1, hX.2.2.2.2.2.2.2.2.2.2.2.2.2.2.2.2.2.2.2.2.1, hX.2.2.2.2.2.2.2.2.2.2.2.2.2.2.2.2.2.2.2.2.2.1, hX.2.2.2.2.2.2.2.2.2.2.2.2.2.2.2.2.2.2.2.2.2.2.1, hX.2.2.2.2.2.2.2.2.2.2.2.2.2.2.2.2.2.2.2.2.2.2.2.1, hX.2.2.2.2.2.2.2.2.2.2.2.2.2.2.2.2.2.2.2.2.2.2.2.2.1, hX.2.2.2.2.2.2.2.2.2.2.2.2.2.2.2.2.2.2.2.2.2.2.2.2.2.1, hX.2.2.2.2.2.2.2.2.2.2.2.2.2.2.2.2.2.2.2.2.2.2.2.2.2.2⟩ ⟨hM.1, hM.2.1, hM.2.2⟩ hR hP hD hS hl
    · refine behDi (wr := ((uX6 cs (Q 0 0) (fun _ => Q 0 1) (F 1) (A 1) (B 1) (D 1)) ++ ((uX9 cs (Q 0 1) (Q 2) (F 2) (A 2) (B 2) (D 2)) ++ ((uX3 cs (Q 0 2) (Q 3) (F 3) (A 3) (B 3) (D 3)) ++ ((uX8 cs (Q 0 3) (Q 4) (F 4) (A 4) (B 4) (D 4)) ++ ((uX3 cs (Q 4 0) (Q 5) (F 5) (A 5) (B 5) (D 5)) ++ ((uX5 cs (Q 0 6) (Q 6) (F 6) (A 6) (B 6) (D 6)) ++ ((uX5 cs (Q 0 7) (Q 7) (F 7) (A 7) (B 7) (D 7)) ++ ((uX0 cs (Q 0 8) (Q 8) (F 8) (A 8) (B 8) (D 8)) ++ ((uX1 cs (Q 0 9) (Q 9) (F 9) (A 9) (B 9) (D 9)) ++ ((uX4 cs (Q 0 10) (Q 10) (F 10) (A 10) (B 10) (D 10)) ++ ((uX2 cs (Q 0 11) (Q 11) (F 11) (A 11) (B 11) (D 11)) ++ ((uX7 cs (Q 0 21) (Q 13) (F 13) (A 13) (B 13) (D 13)) ++ ((uX7 cs (Q 0 22) (Q 14) (F 14) (A 14) (B 14) (D 14)) ++ ((uX7 cs (Q 0 23) (Q 15) (F 15) (A 15) (B 15) (D 15)) ++ ((uX8 cs (Q 0 30) (Q 16) (F 16) (A 16) (B 16) (D 16)) ++ ((uX3 cs (Q 16 0) (Q 17) (F 17) (A 17) (B 17) (D 17)) ++ ((uX8 cs (Q 0 31) (Q 18) (F 18) (A 18) (B 18) (D 18)) ++ ((uX3 cs (Q 18 0) (Q 19) (F 19) (A 19) (B 19) (D 19)) ++ ((uX8 cs (Q 0 32) (Q 20) (F 20) (A 20) (B 20) (D 20)) ++ ((uX3 cs (Q 20 0) (Q 21) (F 21) (A 21) (B 21) (D 21)) ++ ((uX5 cs (Q 8 10) (Q 22) (F 22) (A 22) (B 22) (D 22)) ++ ((uX5 cs (Q 8 11) (Q 23) (F 23) (A 23) (B 23) (D 23)) ++ ((uX5 cs (Q 8 12) (Q 24) (F 24) (A 24) (B 24) (D 24)) ++ ((uX5 cs (Q 8 13) (Q 25) (F 25) (A 25) (B 25) (D 25)) ++ ((uX5 cs (Q 8 14) (Q 26) (F 26) (A 26) (B 26) (D 26)) ++ (mS cs h2 q2 MF MA MD MB))))))))))))))))))))))))))) (runVD (As := [.int 0, .int a2, .int 0, .int a4, .int a5]) (rest := []) ⟨hx, hb, hml, hown, ht⟩ (sX10_paste_0_0 l G cs h1 (Q 0) (F 0) (A 0) (B 0) (D 0) hX.1 (Q 12) (F 12) (A 12) (B 12) (D 12) hX.2.2.2.2.2.2.2.2.2.2.2.2.1 a2 a4 a5) okV_RL_276 ⟨(Nat.le_of_ble_eq_true rfl), (Nat.le_of_ble_eq_true rfl)⟩ hK hP hD [0, 1, 2, 48, 49] rfl (by decide +kernel) rfl 0 rfl rfl hl.1 rfl (Nat.le_of_ble_eq_true rfl) dL_law_2119 ⟨(Nat.le_of_ble_eq_true rfl), (Nat.le_of_ble_eq_true rfl)⟩) hP hD hS (fun _ h => h) [0, 1, 2, 48, 49] [3, 4, 5, 6, 7, 8, 9, 10, 11, 12, 13, 14, 15, 16, 17, 18, 19, 20, 21, 22, 23, 24, 25, 26, 27, 28, 29, 30, 31, 32, 33, 34, 35, 36, 37, 38, 39, 40, 41, 42, 43, 44, 45, 46, 47, 50, 51, 52, 53, 54, 55, 56, 57, 58, 59, 60, 61, 62, 63, 64, 65, 66, 67, 68, 69, 70, 71, 72, 73, 74, 75, 76, 77, 78, 79, 80, 81, 82, 83, 84, 85, 86, 87, 88, 89, 90, 91, 92, 93, 94, 95, 96, 97, 98, 99, 100, 101, 102, 103, 104, 105, 106, 107, 108, 109, 110, 111, 112, 113, 114, 115, 116, 117, 118, 119, 120] rfl rfl (by decide +kernel) (by decide +kernel) (fun r9 u H locs hu hP hD hS => ?_)
      obtain ⟨y92, rfl⟩ : ∃ z, z = u := ⟨_, rfl⟩
      obtain ⟨r91, rfl⟩ : ∃ z, z = r9 := ⟨_, rfl⟩
      have hr91 := hu
      have kk93 : (0 : Int32).toInt = 0 := by decide
      have kk94 : (0 : Int32).toInt = 0 := by decide
      have hr91 : (((F 12 1).toInt = 0 ∨ (F 12 1).toInt = 0) ∧ r91.toInt = -6) ∨ (¬ (F 12 1).toInt = 0 ∧ ¬ (F 12 1).toInt = 0 ∧ ¬ (F 12 2).toInt = (F 12 2).toInt ∧ r91.toInt = -8) ∨ (¬ (F 12 1).toInt = 0 ∧ ¬ (F 12 1).toInt = 0 ∧ (F 12 2).toInt = (F 12 2).toInt ∧ (a2.toInt < 0 ∨ a4.toInt < 0 ∨ a5.toInt < 0 ∨ (F 12 3).toInt < a2.toInt + a5.toInt ∨ (F 12 3).toInt < a4.toInt + a5.toInt) ∧ r91.toInt = -7) ∨ (¬ (F 12 1).toInt = 0 ∧ ¬ (F 12 1).toInt = 0 ∧ (F 12 2).toInt = (F 12 2).toInt ∧ ¬ (a2.toInt < 0 ∨ a4.toInt < 0 ∨ a5.toInt < 0 ∨ (F 12 3).toInt < a2.toInt + a5.toInt ∨ (F 12 3).toInt < a4.toInt + a5.toInt) ∧ r91.toInt = 0) := hr91
      have hP : va_P G vwCl (LW cs h1 Q h2 q2 F A (vA B 12 (vA (B 12) 0 y92)) D MF MA MD MB) H := hP.sub [116, 117, 118, 0, 1, 2, 3, 4, 5, 6, 7, 8, 9, 10, 11, 12, 13, 14, 15, 16, 17, 18, 19, 20, 21, 22, 23, 24, 25, 26, 27, 28, 29, 30, 31, 32, 33, 34, 35, 36, 37, 38, 39, 40, 41, 42, 43, 44, 119, 120, 45, 46, 47, 48, 49, 50, 51, 52, 53, 54, 55, 56, 57, 58, 59, 60, 61, 62, 63, 64, 65, 66, 67, 68, 69, 70, 71, 72, 73, 74, 75, 76, 77, 78, 79, 80, 81, 82, 83, 84, 85, 86, 87, 88, 89, 90, 91, 92, 93, 94, 95, 96, 97, 98, 99, 100, 101, 102, 103, 104, 105, 106, 107, 108, 109, 110, 111, 112, 113, 114, 115] rfl
      have hD : va_D (fun q : Nat => s.heap.size ≤ q) (LW cs h1 Q h2 q2 F A (vA B 12 (vA (B 12) 0 y92)) D MF MA MD MB) := hD.sub [116, 117, 118, 0, 1, 2, 3, 4, 5, 6, 7, 8, 9, 10, 11, 12, 13, 14, 15, 16, 17, 18, 19, 20, 21, 22, 23, 24, 25, 26, 27, 28, 29, 30, 31, 32, 33, 34, 35, 36, 37, 38, 39, 40, 41, 42, 43, 44, 119, 120, 45, 46, 47, 48, 49, 50, 51, 52, 53, 54, 55, 56, 57, 58, 59, 60, 61, 62, 63, 64, 65, 66, 67, 68, 69, 70, 71, 72, 73, 74, 75, 76, 77, 78, 79, 80, 81, 82, 83, 84, 85, 86, 87, 88, 89, 90, 91, 92, 93, 94, 95, 96, 97, 98, 99, 100, 101, 102, 103, 104, 105, 106, 107, 108, 109, 110, 111, 112, 113, 114, 115] (by decide +kernel) rfl
      refine lv_pop hx hb dL_law_2122 rfl ?_
      refine lv_aload_n hx hb dL_law_2123 rfl (lv_at hl 1 rfl) ?_
      refine lv_aload_n hx hb dL_law_2124 rfl (lv_at hl 3 rfl) ?_
      refine lv_iload_n hx hb dL_law_2125 rfl (lv_at hl 0 rfl) ?_
      refine lv_iconst (v := 1) hx hb dL_law_2126 (by decide) ?_
      refine lv_iadd hx hb dL_law_2127 ?_
      refine va_sld hx hb hXs hbl hbA hS (inK t1 (by omega) (by omega)) dL_law_2128 ?_
      refine W.eq (g2 := F0 m 2129 ls [.int 0, .ref h2]) (by rw [← ea1]) ?_
      refine lv_aload_n hx hb dL_law_2129 rfl (lv_at hl 3 rfl) ?_
      refine lv_iload_n hx hb dL_law_2130 rfl (lv_at hl 0 rfl) ?_
      refine lv_iconst (v := 2) hx hb dL_law_2131 (by decide) ?_
      refine lv_iadd hx hb dL_law_2132 ?_
      refine va_sld hx hb hXs hbl hbA hS (inK t2 (by omega) (by omega)) dL_law_2133 ?_
      refine W.eq (g2 := F0 m 2134 ls [.int a2, .int 0, .ref h2]) (by rw [← ea2]) ?_
      refine lv_aload_n hx hb dL_law_2134 rfl (lv_at hl 3 rfl) ?_
      refine lv_iload_n hx hb dL_law_2135 rfl (lv_at hl 0 rfl) ?_
      refine lv_iconst (v := 3) hx hb dL_law_2136 (by decide) ?_
      refine lv_iadd hx hb dL_law_2137 ?_
      refine va_sld hx hb hXs hbl hbA hS (inK t3 (by omega) (by omega)) dL_law_2138 ?_
      refine W.eq (g2 := F0 m 2139 ls [.int 0, .int a2, .int 0, .ref h2]) (by rw [← ea3]) ?_
      refine lv_aload_n hx hb dL_law_2139 rfl (lv_at hl 3 rfl) ?_
      refine lv_iload_n hx hb dL_law_2140 rfl (lv_at hl 0 rfl) ?_
      refine lv_iconst (v := 4) hx hb dL_law_2141 (by decide) ?_
      refine lv_iadd hx hb dL_law_2142 ?_
      refine va_sld hx hb hXs hbl hbA hS (inK t4 (by omega) (by omega)) dL_law_2143 ?_
      refine W.eq (g2 := F0 m 2144 ls [.int a4, .int 0, .int a2, .int 0, .ref h2]) (by rw [← ea4]) ?_
      refine lv_aload_n hx hb dL_law_2144 rfl (lv_at hl 3 rfl) ?_
      refine lv_iload_n hx hb dL_law_2145 rfl (lv_at hl 0 rfl) ?_
      refine lv_iconst (v := 5) hx hb dL_law_2146 (by decide) ?_
      refine lv_iadd hx hb dL_law_2147 ?_
      refine va_sld hx hb hXs hbl hbA hS (inK t5 (by omega) (by omega)) dL_law_2148 ?_
      refine W.eq (g2 := F0 m 2149 ls [.int a5, .int a4, .int 0, .int a2, .int 0, .ref h2]) (by rw [← ea5]) ?_
      refine behDi (wr := (XLW cs h1 Q F A (vA B 12 (vA (B 12) 0 y92)) D)) (runVD (As := [.int 0, .int a2, .int 0, .int a4, .int a5]) (rest := []) ⟨hx, hb, hml, hown, ht⟩ (sX11_paste l G cs h2 q2 MF MA MD MB hM.1 0 a2 0 a4 a5) okV_RL_279 ⟨(Nat.le_of_ble_eq_true rfl), (Nat.le_of_ble_eq_true rfl)⟩ hK hP hD [101, 102, 103, 104, 105, 106, 107, 108, 109, 110, 111, 112, 113, 114, 115, 116, 117, 118, 119, 120] rfl (by decide +kernel) rfl 101 rfl rfl hl.1 rfl (Nat.le_of_ble_eq_true rfl) dL_law_2149 ⟨(Nat.le_of_ble_eq_true rfl), (Nat.le_of_ble_eq_true rfl)⟩) hP hD hS (fun _ h => h) [101, 102, 103, 104, 105, 106, 107, 108, 109, 110, 111, 112, 113, 114, 115, 116, 117, 118, 119, 120] [0, 1, 2, 3, 4, 5, 6, 7, 8, 9, 10, 11, 12, 13, 14, 15, 16, 17, 18, 19, 20, 21, 22, 23, 24, 25, 26, 27, 28, 29, 30, 31, 32, 33, 34, 35, 36, 37, 38, 39, 40, 41, 42, 43, 44, 45, 46, 47, 48, 49, 50, 51, 52, 53, 54, 55, 56, 57, 58, 59, 60, 61, 62, 63, 64, 65, 66, 67, 68, 69, 70, 71, 72, 73, 74, 75, 76, 77, 78, 79, 80, 81, 82, 83, 84, 85, 86, 87, 88, 89, 90, 91, 92, 93, 94, 95, 96, 97, 98, 99, 100] rfl rfl (by decide +kernel) (by decide +kernel) (fun r9 u H locs hu hP hD hS => ?_)
      obtain ⟨y96, y97⟩ := u
      obtain ⟨r95, rfl⟩ : ∃ z, z = r9 := ⟨_, rfl⟩
      have hr95 := hu
      have kk98 : (0 : Int32).toInt = 0 := by decide
      have kk99 : (0 : Int32).toInt = 0 := by decide
      have hr95 : (r95.toInt = -2 ∧ ((0 : Int32).toInt < 0 ∨ 3 < (0 : Int32).toInt ∨ (0 : Int32).toInt < 0 ∨ 3 < (0 : Int32).toInt)) ∨ ((0 ≤ (0 : Int32).toInt ∧ (0 : Int32).toInt ≤ 3) ∧ (0 ≤ (0 : Int32).toInt ∧ (0 : Int32).toInt ≤ 3) ∧ (((MA 31) (0 : Int32).toNatClampNeg).toInt = -1 ∨ ((MA 31) (0 : Int32).toNatClampNeg).toInt = -1) ∧ r95.toInt = -6) ∨ ((0 ≤ (0 : Int32).toInt ∧ (0 : Int32).toInt ≤ 3) ∧ (0 ≤ (0 : Int32).toInt ∧ (0 : Int32).toInt ≤ 3) ∧ ¬ ((MA 31) (0 : Int32).toNatClampNeg).toInt = -1 ∧ ¬ ((MA 31) (0 : Int32).toNatClampNeg).toInt = -1 ∧ ¬ ((MA 32) (0 : Int32).toNatClampNeg).toInt = ((MA 32) (0 : Int32).toNatClampNeg).toInt ∧ r95.toInt = -8) ∨ ((0 ≤ (0 : Int32).toInt ∧ (0 : Int32).toInt ≤ 3) ∧ (0 ≤ (0 : Int32).toInt ∧ (0 : Int32).toInt ≤ 3) ∧ ¬ ((MA 31) (0 : Int32).toNatClampNeg).toInt = -1 ∧ ¬ ((MA 31) (0 : Int32).toNatClampNeg).toInt = -1 ∧ ((MA 32) (0 : Int32).toNatClampNeg).toInt = ((MA 32) (0 : Int32).toNatClampNeg).toInt ∧ (a2.toInt < 0 ∨ a4.toInt < 0 ∨ a5.toInt < 0 ∨ ((MA 31) (0 : Int32).toNatClampNeg).toInt < a2.toInt + a5.toInt ∨ ((MA 31) (0 : Int32).toNatClampNeg).toInt < a4.toInt + a5.toInt) ∧ r95.toInt = -7) ∨ ((0 ≤ (0 : Int32).toInt ∧ (0 : Int32).toInt ≤ 3) ∧ (0 ≤ (0 : Int32).toInt ∧ (0 : Int32).toInt ≤ 3) ∧ ¬ ((MA 31) (0 : Int32).toNatClampNeg).toInt = -1 ∧ ¬ ((MA 31) (0 : Int32).toNatClampNeg).toInt = -1 ∧ ((MA 32) (0 : Int32).toNatClampNeg).toInt = ((MA 32) (0 : Int32).toNatClampNeg).toInt ∧ ¬ (a2.toInt < 0 ∨ a4.toInt < 0 ∨ a5.toInt < 0 ∨ ((MA 31) (0 : Int32).toNatClampNeg).toInt < a2.toInt + a5.toInt ∨ ((MA 31) (0 : Int32).toNatClampNeg).toInt < a4.toInt + a5.toInt) ∧ r95.toInt = 0) := hr95
      have hP : va_P G vwCl (LW cs h1 Q h2 q2 F A (vA B 12 (vA (B 12) 0 y92)) D MF MA MD (vA (vA MB 33 y96) 34 y97)) H := hP
      have hD : va_D (fun q : Nat => s.heap.size ≤ q) (LW cs h1 Q h2 q2 F A (vA B 12 (vA (B 12) 0 y92)) D MF MA MD (vA (vA MB 33 y96) 34 y97)) := hD
      have n31_0 : (MA 31 (0 : Int32).toNatClampNeg).toInt = (MA 31 0).toInt := congrArg (fun z => (MA 31 z).toInt) (show (0 : Int32).toNatClampNeg = 0 by decide)
      have n32_0 : (MA 32 (0 : Int32).toNatClampNeg).toInt = (MA 32 0).toInt := congrArg (fun z => (MA 32 z).toInt) (show (0 : Int32).toNatClampNeg = 0 by decide)
      have nsr_0 : ((F 12 1).toInt = 0 ∧ (MA 31 0).toInt = -1) ∨ (¬ (F 12 1).toInt = 0 ∧ (MA 31 0).toInt = (F 12 3).toInt ∧ 0 ≤ (F 12 3).toInt ∧ (MA 32 0).toInt = (F 12 2).toInt) := hR.2.2.2.1
      refine lv_pop hx hb dL_law_2152 rfl ?_
      refine lv_goto (tgt := 2156) hx hb dL_law_2153 (by decide) ?_
      exact kk F A (vA B 12 (vA (B 12) 0 y92)) D MF MA MD (vA (vA MB 33 y96) 34 y97) H locs ls ⟨hX.1, hX.2.1, hX.2.2.1, hX.2.2.2.1, hX.2.2.2.2.1, hX.2.2.2.2.2.1, hX.2.2.2.2.2.2.1, hX.2.2.2.2.2.2.2.1, hX.2.2.2.2.2.2.2.2.1, hX.2.2.2.2.2.2.2.2.2.1, hX.2.2.2.2.2.2.2.2.2.2.1, hX.2.2.2.2.2.2.2.2.2.2.2.1, hX.2.2.2.2.2.2.2.2.2.2.2.2.1, hX.2.2.2.2.2.2.2.2.2.2.2.2.2.1, hX.2.2.2.2.2.2.2.2.2.2.2.2.2.2.1, hX.2.2.2.2.2.2.2.2.2.2.2.2.2.2.2.1, hX.2.2.2.2.2.2.2.2.2.2.2.2.2.2.2.2.1, hX.2.2.2.2.2.2.2.2.2.2.2.2.2.2.2.2.2.1, hX.2.2.2.2.2.2.2.2.2.2.2.2.2.2.2.2.2.2.1, hX.2.2.2.2.2.2.2.2.2.2.2.2.2.2.2.2.2.2.2.1, hX.2.2.2.2.2.2.2.2.2.2.2.2.2.2.2.2.2.2.2.2.1, hX.2.2.2.2.2.2.2.2.2.2.2.2.2.2.2.2.2.2.2.2.2.1, hX.2.2.2.2.2.2.2.2.2.2.2.2.2.2.2.2.2.2.2.2.2.2.1, hX.2.2.2.2.2.2.2.2.2.2.2.2.2.2.2.2.2.2.2.2.2.2.2.1, hX.2.2.2.2.2.2.2.2.2.2.2.2.2.2.2.2.2.2.2.2.2.2.2.2.1, hX.2.2.2.2.2.2.2.2.2.2.2.2.2.2.2.2.2.2.2.2.2.2.2.2.2.1, hX.2.2.2.2.2.2.2.2.2.2.2.2.2.2.2.2.2.2.2.2.2.2.2.2.2.2⟩ ⟨hM.1, hM.2.1, hM.2.2⟩ hR hP hD hS hl
    · refine behDi (wr := ((uX6 cs (Q 0 0) (fun _ => Q 0 1) (F 1) (A 1) (B 1) (D 1)) ++ ((uX9 cs (Q 0 1) (Q 2) (F 2) (A 2) (B 2) (D 2)) ++ ((uX3 cs (Q 0 2) (Q 3) (F 3) (A 3) (B 3) (D 3)) ++ ((uX8 cs (Q 0 3) (Q 4) (F 4) (A 4) (B 4) (D 4)) ++ ((uX3 cs (Q 4 0) (Q 5) (F 5) (A 5) (B 5) (D 5)) ++ ((uX5 cs (Q 0 6) (Q 6) (F 6) (A 6) (B 6) (D 6)) ++ ((uX5 cs (Q 0 7) (Q 7) (F 7) (A 7) (B 7) (D 7)) ++ ((uX0 cs (Q 0 8) (Q 8) (F 8) (A 8) (B 8) (D 8)) ++ ((uX1 cs (Q 0 9) (Q 9) (F 9) (A 9) (B 9) (D 9)) ++ ((uX4 cs (Q 0 10) (Q 10) (F 10) (A 10) (B 10) (D 10)) ++ ((uX2 cs (Q 0 11) (Q 11) (F 11) (A 11) (B 11) (D 11)) ++ ((uX7 cs (Q 0 22) (Q 14) (F 14) (A 14) (B 14) (D 14)) ++ ((uX7 cs (Q 0 23) (Q 15) (F 15) (A 15) (B 15) (D 15)) ++ ((uX8 cs (Q 0 30) (Q 16) (F 16) (A 16) (B 16) (D 16)) ++ ((uX3 cs (Q 16 0) (Q 17) (F 17) (A 17) (B 17) (D 17)) ++ ((uX8 cs (Q 0 31) (Q 18) (F 18) (A 18) (B 18) (D 18)) ++ ((uX3 cs (Q 18 0) (Q 19) (F 19) (A 19) (B 19) (D 19)) ++ ((uX8 cs (Q 0 32) (Q 20) (F 20) (A 20) (B 20) (D 20)) ++ ((uX3 cs (Q 20 0) (Q 21) (F 21) (A 21) (B 21) (D 21)) ++ ((uX5 cs (Q 8 10) (Q 22) (F 22) (A 22) (B 22) (D 22)) ++ ((uX5 cs (Q 8 11) (Q 23) (F 23) (A 23) (B 23) (D 23)) ++ ((uX5 cs (Q 8 12) (Q 24) (F 24) (A 24) (B 24) (D 24)) ++ ((uX5 cs (Q 8 13) (Q 25) (F 25) (A 25) (B 25) (D 25)) ++ ((uX5 cs (Q 8 14) (Q 26) (F 26) (A 26) (B 26) (D 26)) ++ (mS cs h2 q2 MF MA MD MB)))))))))))))))))))))))))) (runVD (As := [.int 0, .int a2, .int 1, .int a4, .int a5]) (rest := []) ⟨hx, hb, hml, hown, ht⟩ (sX10_paste_0_1 l G cs h1 (Q 0) (F 0) (A 0) (B 0) (D 0) hX.1 (Q 12) (F 12) (A 12) (B 12) (D 12) hX.2.2.2.2.2.2.2.2.2.2.2.2.1 (Q 13) (F 13) (A 13) (B 13) (D 13) hX.2.2.2.2.2.2.2.2.2.2.2.2.2.1 a2 a4 a5) okV_RL_276 ⟨(Nat.le_of_ble_eq_true rfl), (Nat.le_of_ble_eq_true rfl)⟩ hK hP hD [0, 1, 2, 48, 49, 50, 51] rfl (by decide +kernel) rfl 0 rfl rfl hl.1 rfl (Nat.le_of_ble_eq_true rfl) dL_law_2119 ⟨(Nat.le_of_ble_eq_true rfl), (Nat.le_of_ble_eq_true rfl)⟩) hP hD hS (fun _ h => h) [0, 1, 2, 48, 49, 50, 51] [3, 4, 5, 6, 7, 8, 9, 10, 11, 12, 13, 14, 15, 16, 17, 18, 19, 20, 21, 22, 23, 24, 25, 26, 27, 28, 29, 30, 31, 32, 33, 34, 35, 36, 37, 38, 39, 40, 41, 42, 43, 44, 45, 46, 47, 52, 53, 54, 55, 56, 57, 58, 59, 60, 61, 62, 63, 64, 65, 66, 67, 68, 69, 70, 71, 72, 73, 74, 75, 76, 77, 78, 79, 80, 81, 82, 83, 84, 85, 86, 87, 88, 89, 90, 91, 92, 93, 94, 95, 96, 97, 98, 99, 100, 101, 102, 103, 104, 105, 106, 107, 108, 109, 110, 111, 112, 113, 114, 115, 116, 117, 118, 119, 120] rfl rfl (by decide +kernel) (by decide +kernel) (fun r9 u H locs hu hP hD hS => ?_)
      obtain ⟨y101, rfl⟩ : ∃ z, z = u := ⟨_, rfl⟩
      obtain ⟨r100, rfl⟩ : ∃ z, z = r9 := ⟨_, rfl⟩
      have hr100 := hu
      have kk102 : (0 : Int32).toInt = 0 := by decide
      have kk103 : (1 : Int32).toInt = 1 := by decide
      have hr100 : (((F 12 1).toInt = 0 ∨ (F 13 1).toInt = 0) ∧ r100.toInt = -6) ∨ (¬ (F 12 1).toInt = 0 ∧ ¬ (F 13 1).toInt = 0 ∧ ¬ (F 12 2).toInt = (F 13 2).toInt ∧ r100.toInt = -8) ∨ (¬ (F 12 1).toInt = 0 ∧ ¬ (F 13 1).toInt = 0 ∧ (F 12 2).toInt = (F 13 2).toInt ∧ (a2.toInt < 0 ∨ a4.toInt < 0 ∨ a5.toInt < 0 ∨ (F 12 3).toInt < a2.toInt + a5.toInt ∨ (F 13 3).toInt < a4.toInt + a5.toInt) ∧ r100.toInt = -7) ∨ (¬ (F 12 1).toInt = 0 ∧ ¬ (F 13 1).toInt = 0 ∧ (F 12 2).toInt = (F 13 2).toInt ∧ ¬ (a2.toInt < 0 ∨ a4.toInt < 0 ∨ a5.toInt < 0 ∨ (F 12 3).toInt < a2.toInt + a5.toInt ∨ (F 13 3).toInt < a4.toInt + a5.toInt) ∧ r100.toInt = 0) := hr100
      have hP : va_P G vwCl (LW cs h1 Q h2 q2 F A (vA B 13 (vA (B 13) 0 y101)) D MF MA MD MB) H := hP.sub [114, 115, 116, 0, 1, 2, 3, 4, 5, 6, 7, 8, 9, 10, 11, 12, 13, 14, 15, 16, 17, 18, 19, 20, 21, 22, 23, 24, 25, 26, 27, 28, 29, 30, 31, 32, 33, 34, 35, 36, 37, 38, 39, 40, 41, 42, 43, 44, 117, 118, 119, 120, 45, 46, 47, 48, 49, 50, 51, 52, 53, 54, 55, 56, 57, 58, 59, 60, 61, 62, 63, 64, 65, 66, 67, 68, 69, 70, 71, 72, 73, 74, 75, 76, 77, 78, 79, 80, 81, 82, 83, 84, 85, 86, 87, 88, 89, 90, 91, 92, 93, 94, 95, 96, 97, 98, 99, 100, 101, 102, 103, 104, 105, 106, 107, 108, 109, 110, 111, 112, 113] rfl
      have hD : va_D (fun q : Nat => s.heap.size ≤ q) (LW cs h1 Q h2 q2 F A (vA B 13 (vA (B 13) 0 y101)) D MF MA MD MB) := hD.sub [114, 115, 116, 0, 1, 2, 3, 4, 5, 6, 7, 8, 9, 10, 11, 12, 13, 14, 15, 16, 17, 18, 19, 20, 21, 22, 23, 24, 25, 26, 27, 28, 29, 30, 31, 32, 33, 34, 35, 36, 37, 38, 39, 40, 41, 42, 43, 44, 117, 118, 119, 120, 45, 46, 47, 48, 49, 50, 51, 52, 53, 54, 55, 56, 57, 58, 59, 60, 61, 62, 63, 64, 65, 66, 67, 68, 69, 70, 71, 72, 73, 74, 75, 76, 77, 78, 79, 80, 81, 82, 83, 84, 85, 86, 87, 88, 89, 90, 91, 92, 93, 94, 95, 96, 97, 98, 99, 100, 101, 102, 103, 104, 105, 106, 107, 108, 109, 110, 111, 112, 113] (by decide +kernel) rfl
      refine lv_pop hx hb dL_law_2122 rfl ?_
      refine lv_aload_n hx hb dL_law_2123 rfl (lv_at hl 1 rfl) ?_
      refine lv_aload_n hx hb dL_law_2124 rfl (lv_at hl 3 rfl) ?_
      refine lv_iload_n hx hb dL_law_2125 rfl (lv_at hl 0 rfl) ?_
      refine lv_iconst (v := 1) hx hb dL_law_2126 (by decide) ?_
      refine lv_iadd hx hb dL_law_2127 ?_
      refine va_sld hx hb hXs hbl hbA hS (inK t1 (by omega) (by omega)) dL_law_2128 ?_
      refine W.eq (g2 := F0 m 2129 ls [.int 0, .ref h2]) (by rw [← ea1]) ?_
      refine lv_aload_n hx hb dL_law_2129 rfl (lv_at hl 3 rfl) ?_
      refine lv_iload_n hx hb dL_law_2130 rfl (lv_at hl 0 rfl) ?_
      refine lv_iconst (v := 2) hx hb dL_law_2131 (by decide) ?_
      refine lv_iadd hx hb dL_law_2132 ?_
      refine va_sld hx hb hXs hbl hbA hS (inK t2 (by omega) (by omega)) dL_law_2133 ?_
      refine W.eq (g2 := F0 m 2134 ls [.int a2, .int 0, .ref h2]) (by rw [← ea2]) ?_
      refine lv_aload_n hx hb dL_law_2134 rfl (lv_at hl 3 rfl) ?_
      refine lv_iload_n hx hb dL_law_2135 rfl (lv_at hl 0 rfl) ?_
      refine lv_iconst (v := 3) hx hb dL_law_2136 (by decide) ?_
      refine lv_iadd hx hb dL_law_2137 ?_
      refine va_sld hx hb hXs hbl hbA hS (inK t3 (by omega) (by omega)) dL_law_2138 ?_
      refine W.eq (g2 := F0 m 2139 ls [.int 1, .int a2, .int 0, .ref h2]) (by rw [← ea3]) ?_
      refine lv_aload_n hx hb dL_law_2139 rfl (lv_at hl 3 rfl) ?_
      refine lv_iload_n hx hb dL_law_2140 rfl (lv_at hl 0 rfl) ?_
      refine lv_iconst (v := 4) hx hb dL_law_2141 (by decide) ?_
      refine lv_iadd hx hb dL_law_2142 ?_
      refine va_sld hx hb hXs hbl hbA hS (inK t4 (by omega) (by omega)) dL_law_2143 ?_
      refine W.eq (g2 := F0 m 2144 ls [.int a4, .int 1, .int a2, .int 0, .ref h2]) (by rw [← ea4]) ?_
      refine lv_aload_n hx hb dL_law_2144 rfl (lv_at hl 3 rfl) ?_
      refine lv_iload_n hx hb dL_law_2145 rfl (lv_at hl 0 rfl) ?_
      refine lv_iconst (v := 5) hx hb dL_law_2146 (by decide) ?_
      refine lv_iadd hx hb dL_law_2147 ?_
      refine va_sld hx hb hXs hbl hbA hS (inK t5 (by omega) (by omega)) dL_law_2148 ?_
      refine W.eq (g2 := F0 m 2149 ls [.int a5, .int a4, .int 1, .int a2, .int 0, .ref h2]) (by rw [← ea5]) ?_
      refine behDi (wr := (XLW cs h1 Q F A (vA B 13 (vA (B 13) 0 y101)) D)) (runVD (As := [.int 0, .int a2, .int 1, .int a4, .int a5]) (rest := []) ⟨hx, hb, hml, hown, ht⟩ (sX11_paste l G cs h2 q2 MF MA MD MB hM.1 0 a2 1 a4 a5) okV_RL_279 ⟨(Nat.le_of_ble_eq_true rfl), (Nat.le_of_ble_eq_true rfl)⟩ hK hP hD [101, 102, 103, 104, 105, 106, 107, 108, 109, 110, 111, 112, 113, 114, 115, 116, 117, 118, 119, 120] rfl (by decide +kernel) rfl 101 rfl rfl hl.1 rfl (Nat.le_of_ble_eq_true rfl) dL_law_2149 ⟨(Nat.le_of_ble_eq_true rfl), (Nat.le_of_ble_eq_true rfl)⟩) hP hD hS (fun _ h => h) [101, 102, 103, 104, 105, 106, 107, 108, 109, 110, 111, 112, 113, 114, 115, 116, 117, 118, 119, 120] [0, 1, 2, 3, 4, 5, 6, 7, 8, 9, 10, 11, 12, 13, 14, 15, 16, 17, 18, 19, 20, 21, 22, 23, 24, 25, 26, 27, 28, 29, 30, 31, 32, 33, 34, 35, 36, 37, 38, 39, 40, 41, 42, 43, 44, 45, 46, 47, 48, 49, 50, 51, 52, 53, 54, 55, 56, 57, 58, 59, 60, 61, 62, 63, 64, 65, 66, 67, 68, 69, 70, 71, 72, 73, 74, 75, 76, 77, 78, 79, 80, 81, 82, 83, 84, 85, 86, 87, 88, 89, 90, 91, 92, 93, 94, 95, 96, 97, 98, 99, 100] rfl rfl (by decide +kernel) (by decide +kernel) (fun r9 u H locs hu hP hD hS => ?_)
      obtain ⟨y105, y106⟩ := u
      obtain ⟨r104, rfl⟩ : ∃ z, z = r9 := ⟨_, rfl⟩
      have hr104 := hu
      have kk107 : (0 : Int32).toInt = 0 := by decide
      have kk108 : (1 : Int32).toInt = 1 := by decide
      have hr104 : (r104.toInt = -2 ∧ ((0 : Int32).toInt < 0 ∨ 3 < (0 : Int32).toInt ∨ (1 : Int32).toInt < 0 ∨ 3 < (1 : Int32).toInt)) ∨ ((0 ≤ (0 : Int32).toInt ∧ (0 : Int32).toInt ≤ 3) ∧ (0 ≤ (1 : Int32).toInt ∧ (1 : Int32).toInt ≤ 3) ∧ (((MA 31) (0 : Int32).toNatClampNeg).toInt = -1 ∨ ((MA 31) (1 : Int32).toNatClampNeg).toInt = -1) ∧ r104.toInt = -6) ∨ ((0 ≤ (0 : Int32).toInt ∧ (0 : Int32).toInt ≤ 3) ∧ (0 ≤ (1 : Int32).toInt ∧ (1 : Int32).toInt ≤ 3) ∧ ¬ ((MA 31) (0 : Int32).toNatClampNeg).toInt = -1 ∧ ¬ ((MA 31) (1 : Int32).toNatClampNeg).toInt = -1 ∧ ¬ ((MA 32) (0 : Int32).toNatClampNeg).toInt = ((MA 32) (1 : Int32).toNatClampNeg).toInt ∧ r104.toInt = -8) ∨ ((0 ≤ (0 : Int32).toInt ∧ (0 : Int32).toInt ≤ 3) ∧ (0 ≤ (1 : Int32).toInt ∧ (1 : Int32).toInt ≤ 3) ∧ ¬ ((MA 31) (0 : Int32).toNatClampNeg).toInt = -1 ∧ ¬ ((MA 31) (1 : Int32).toNatClampNeg).toInt = -1 ∧ ((MA 32) (0 : Int32).toNatClampNeg).toInt = ((MA 32) (1 : Int32).toNatClampNeg).toInt ∧ (a2.toInt < 0 ∨ a4.toInt < 0 ∨ a5.toInt < 0 ∨ ((MA 31) (0 : Int32).toNatClampNeg).toInt < a2.toInt + a5.toInt ∨ ((MA 31) (1 : Int32).toNatClampNeg).toInt < a4.toInt + a5.toInt) ∧ r104.toInt = -7) ∨ ((0 ≤ (0 : Int32).toInt ∧ (0 : Int32).toInt ≤ 3) ∧ (0 ≤ (1 : Int32).toInt ∧ (1 : Int32).toInt ≤ 3) ∧ ¬ ((MA 31) (0 : Int32).toNatClampNeg).toInt = -1 ∧ ¬ ((MA 31) (1 : Int32).toNatClampNeg).toInt = -1 ∧ ((MA 32) (0 : Int32).toNatClampNeg).toInt = ((MA 32) (1 : Int32).toNatClampNeg).toInt ∧ ¬ (a2.toInt < 0 ∨ a4.toInt < 0 ∨ a5.toInt < 0 ∨ ((MA 31) (0 : Int32).toNatClampNeg).toInt < a2.toInt + a5.toInt ∨ ((MA 31) (1 : Int32).toNatClampNeg).toInt < a4.toInt + a5.toInt) ∧ r104.toInt = 0) := hr104
      have hP : va_P G vwCl (LW cs h1 Q h2 q2 F A (vA B 13 (vA (B 13) 0 y101)) D MF MA MD (vA (vA MB 33 y105) 34 y106)) H := hP
      have hD : va_D (fun q : Nat => s.heap.size ≤ q) (LW cs h1 Q h2 q2 F A (vA B 13 (vA (B 13) 0 y101)) D MF MA MD (vA (vA MB 33 y105) 34 y106)) := hD
      have n31_0 : (MA 31 (0 : Int32).toNatClampNeg).toInt = (MA 31 0).toInt := congrArg (fun z => (MA 31 z).toInt) (show (0 : Int32).toNatClampNeg = 0 by decide)
      have n32_0 : (MA 32 (0 : Int32).toNatClampNeg).toInt = (MA 32 0).toInt := congrArg (fun z => (MA 32 z).toInt) (show (0 : Int32).toNatClampNeg = 0 by decide)
      have nsr_0 : ((F 12 1).toInt = 0 ∧ (MA 31 0).toInt = -1) ∨ (¬ (F 12 1).toInt = 0 ∧ (MA 31 0).toInt = (F 12 3).toInt ∧ 0 ≤ (F 12 3).toInt ∧ (MA 32 0).toInt = (F 12 2).toInt) := hR.2.2.2.1
      have n31_1 : (MA 31 (1 : Int32).toNatClampNeg).toInt = (MA 31 1).toInt := congrArg (fun z => (MA 31 z).toInt) (show (1 : Int32).toNatClampNeg = 1 by decide)
      have n32_1 : (MA 32 (1 : Int32).toNatClampNeg).toInt = (MA 32 1).toInt := congrArg (fun z => (MA 32 z).toInt) (show (1 : Int32).toNatClampNeg = 1 by decide)
      have nsr_1 : ((F 13 1).toInt = 0 ∧ (MA 31 1).toInt = -1) ∨ (¬ (F 13 1).toInt = 0 ∧ (MA 31 1).toInt = (F 13 3).toInt ∧ 0 ≤ (F 13 3).toInt ∧ (MA 32 1).toInt = (F 13 2).toInt) := hR.2.2.2.2.1
      refine lv_pop hx hb dL_law_2152 rfl ?_
      refine lv_goto (tgt := 2156) hx hb dL_law_2153 (by decide) ?_
      exact kk F A (vA B 13 (vA (B 13) 0 y101)) D MF MA MD (vA (vA MB 33 y105) 34 y106) H locs ls ⟨hX.1, hX.2.1, hX.2.2.1, hX.2.2.2.1, hX.2.2.2.2.1, hX.2.2.2.2.2.1, hX.2.2.2.2.2.2.1, hX.2.2.2.2.2.2.2.1, hX.2.2.2.2.2.2.2.2.1, hX.2.2.2.2.2.2.2.2.2.1, hX.2.2.2.2.2.2.2.2.2.2.1, hX.2.2.2.2.2.2.2.2.2.2.2.1, hX.2.2.2.2.2.2.2.2.2.2.2.2.1, hX.2.2.2.2.2.2.2.2.2.2.2.2.2.1, hX.2.2.2.2.2.2.2.2.2.2.2.2.2.2.1, hX.2.2.2.2.2.2.2.2.2.2.2.2.2.2.2.1, hX.2.2.2.2.2.2.2.2.2.2.2.2.2.2.2.2.1, hX.2.2.2.2.2.2.2.2.2.2.2.2.2.2.2.2.2.1, hX.2.2.2.2.2.2.2.2.2.2.2.2.2.2.2.2.2.2.1, hX.2.2.2.2.2.2.2.2.2.2.2.2.2.2.2.2.2.2.2.1, hX.2.2.2.2.2.2.2.2.2.2.2.2.2.2.2.2.2.2.2.2.1, hX.2.2.2.2.2.2.2.2.2.2.2.2.2.2.2.2.2.2.2.2.2.1, hX.2.2.2.2.2.2.2.2.2.2.2.2.2.2.2.2.2.2.2.2.2.2.1, hX.2.2.2.2.2.2.2.2.2.2.2.2.2.2.2.2.2.2.2.2.2.2.2.1, hX.2.2.2.2.2.2.2.2.2.2.2.2.2.2.2.2.2.2.2.2.2.2.2.2.1, hX.2.2.2.2.2.2.2.2.2.2.2.2.2.2.2.2.2.2.2.2.2.2.2.2.2.1, hX.2.2.2.2.2.2.2.2.2.2.2.2.2.2.2.2.2.2.2.2.2.2.2.2.2.2⟩ ⟨hM.1, hM.2.1, hM.2.2⟩ hR hP hD hS hl
    · refine behDi (wr := ((uX6 cs (Q 0 0) (fun _ => Q 0 1) (F 1) (A 1) (B 1) (D 1)) ++ ((uX9 cs (Q 0 1) (Q 2) (F 2) (A 2) (B 2) (D 2)) ++ ((uX3 cs (Q 0 2) (Q 3) (F 3) (A 3) (B 3) (D 3)) ++ ((uX8 cs (Q 0 3) (Q 4) (F 4) (A 4) (B 4) (D 4)) ++ ((uX3 cs (Q 4 0) (Q 5) (F 5) (A 5) (B 5) (D 5)) ++ ((uX5 cs (Q 0 6) (Q 6) (F 6) (A 6) (B 6) (D 6)) ++ ((uX5 cs (Q 0 7) (Q 7) (F 7) (A 7) (B 7) (D 7)) ++ ((uX0 cs (Q 0 8) (Q 8) (F 8) (A 8) (B 8) (D 8)) ++ ((uX1 cs (Q 0 9) (Q 9) (F 9) (A 9) (B 9) (D 9)) ++ ((uX4 cs (Q 0 10) (Q 10) (F 10) (A 10) (B 10) (D 10)) ++ ((uX2 cs (Q 0 11) (Q 11) (F 11) (A 11) (B 11) (D 11)) ++ ((uX7 cs (Q 0 21) (Q 13) (F 13) (A 13) (B 13) (D 13)) ++ ((uX7 cs (Q 0 23) (Q 15) (F 15) (A 15) (B 15) (D 15)) ++ ((uX8 cs (Q 0 30) (Q 16) (F 16) (A 16) (B 16) (D 16)) ++ ((uX3 cs (Q 16 0) (Q 17) (F 17) (A 17) (B 17) (D 17)) ++ ((uX8 cs (Q 0 31) (Q 18) (F 18) (A 18) (B 18) (D 18)) ++ ((uX3 cs (Q 18 0) (Q 19) (F 19) (A 19) (B 19) (D 19)) ++ ((uX8 cs (Q 0 32) (Q 20) (F 20) (A 20) (B 20) (D 20)) ++ ((uX3 cs (Q 20 0) (Q 21) (F 21) (A 21) (B 21) (D 21)) ++ ((uX5 cs (Q 8 10) (Q 22) (F 22) (A 22) (B 22) (D 22)) ++ ((uX5 cs (Q 8 11) (Q 23) (F 23) (A 23) (B 23) (D 23)) ++ ((uX5 cs (Q 8 12) (Q 24) (F 24) (A 24) (B 24) (D 24)) ++ ((uX5 cs (Q 8 13) (Q 25) (F 25) (A 25) (B 25) (D 25)) ++ ((uX5 cs (Q 8 14) (Q 26) (F 26) (A 26) (B 26) (D 26)) ++ (mS cs h2 q2 MF MA MD MB)))))))))))))))))))))))))) (runVD (As := [.int 0, .int a2, .int 2, .int a4, .int a5]) (rest := []) ⟨hx, hb, hml, hown, ht⟩ (sX10_paste_0_2 l G cs h1 (Q 0) (F 0) (A 0) (B 0) (D 0) hX.1 (Q 12) (F 12) (A 12) (B 12) (D 12) hX.2.2.2.2.2.2.2.2.2.2.2.2.1 (Q 14) (F 14) (A 14) (B 14) (D 14) hX.2.2.2.2.2.2.2.2.2.2.2.2.2.2.1 a2 a4 a5) okV_RL_276 ⟨(Nat.le_of_ble_eq_true rfl), (Nat.le_of_ble_eq_true rfl)⟩ hK hP hD [0, 1, 2, 48, 49, 52, 53] rfl (by decide +kernel) rfl 0 rfl rfl hl.1 rfl (Nat.le_of_ble_eq_true rfl) dL_law_2119 ⟨(Nat.le_of_ble_eq_true rfl), (Nat.le_of_ble_eq_true rfl)⟩) hP hD hS (fun _ h => h) [0, 1, 2, 48, 49, 52, 53] [3, 4, 5, 6, 7, 8, 9, 10, 11, 12, 13, 14, 15, 16, 17, 18, 19, 20, 21, 22, 23, 24, 25, 26, 27, 28, 29, 30, 31, 32, 33, 34, 35, 36, 37, 38, 39, 40, 41, 42, 43, 44, 45, 46, 47, 50, 51, 54, 55, 56, 57, 58, 59, 60, 61, 62, 63, 64, 65, 66, 67, 68, 69, 70, 71, 72, 73, 74, 75, 76, 77, 78, 79, 80, 81, 82, 83, 84, 85, 86, 87, 88, 89, 90, 91, 92, 93, 94, 95, 96, 97, 98, 99, 100, 101, 102, 103, 104, 105, 106, 107, 108, 109, 110, 111, 112, 113, 114, 115, 116, 117, 118, 119, 120] rfl rfl (by decide +kernel) (by decide +kernel) (fun r9 u H locs hu hP hD hS => ?_)
      obtain ⟨y110, rfl⟩ : ∃ z, z = u := ⟨_, rfl⟩
      obtain ⟨r109, rfl⟩ : ∃ z, z = r9 := ⟨_, rfl⟩
      have hr109 := hu
      have kk111 : (0 : Int32).toInt = 0 := by decide
      have kk112 : (2 : Int32).toInt = 2 := by decide
      have hr109 : (((F 12 1).toInt = 0 ∨ (F 14 1).toInt = 0) ∧ r109.toInt = -6) ∨ (¬ (F 12 1).toInt = 0 ∧ ¬ (F 14 1).toInt = 0 ∧ ¬ (F 12 2).toInt = (F 14 2).toInt ∧ r109.toInt = -8) ∨ (¬ (F 12 1).toInt = 0 ∧ ¬ (F 14 1).toInt = 0 ∧ (F 12 2).toInt = (F 14 2).toInt ∧ (a2.toInt < 0 ∨ a4.toInt < 0 ∨ a5.toInt < 0 ∨ (F 12 3).toInt < a2.toInt + a5.toInt ∨ (F 14 3).toInt < a4.toInt + a5.toInt) ∧ r109.toInt = -7) ∨ (¬ (F 12 1).toInt = 0 ∧ ¬ (F 14 1).toInt = 0 ∧ (F 12 2).toInt = (F 14 2).toInt ∧ ¬ (a2.toInt < 0 ∨ a4.toInt < 0 ∨ a5.toInt < 0 ∨ (F 12 3).toInt < a2.toInt + a5.toInt ∨ (F 14 3).toInt < a4.toInt + a5.toInt) ∧ r109.toInt = 0) := hr109
      have hP : va_P G vwCl (LW cs h1 Q h2 q2 F A (vA B 14 (vA (B 14) 0 y110)) D MF MA MD MB) H := hP.sub [114, 115, 116, 0, 1, 2, 3, 4, 5, 6, 7, 8, 9, 10, 11, 12, 13, 14, 15, 16, 17, 18, 19, 20, 21, 22, 23, 24, 25, 26, 27, 28, 29, 30, 31, 32, 33, 34, 35, 36, 37, 38, 39, 40, 41, 42, 43, 44, 117, 118, 45, 46, 119, 120, 47, 48, 49, 50, 51, 52, 53, 54, 55, 56, 57, 58, 59, 60, 61, 62, 63, 64, 65, 66, 67, 68, 69, 70, 71, 72, 73, 74, 75, 76, 77, 78, 79, 80, 81, 82, 83, 84, 85, 86, 87, 88, 89, 90, 91, 92, 93, 94, 95, 96, 97, 98, 99, 100, 101, 102, 103, 104, 105, 106, 107, 108, 109, 110, 111, 112, 113] rfl
      have hD : va_D (fun q : Nat => s.heap.size ≤ q) (LW cs h1 Q h2 q2 F A (vA B 14 (vA (B 14) 0 y110)) D MF MA MD MB) := hD.sub [114, 115, 116, 0, 1, 2, 3, 4, 5, 6, 7, 8, 9, 10, 11, 12, 13, 14, 15, 16, 17, 18, 19, 20, 21, 22, 23, 24, 25, 26, 27, 28, 29, 30, 31, 32, 33, 34, 35, 36, 37, 38, 39, 40, 41, 42, 43, 44, 117, 118, 45, 46, 119, 120, 47, 48, 49, 50, 51, 52, 53, 54, 55, 56, 57, 58, 59, 60, 61, 62, 63, 64, 65, 66, 67, 68, 69, 70, 71, 72, 73, 74, 75, 76, 77, 78, 79, 80, 81, 82, 83, 84, 85, 86, 87, 88, 89, 90, 91, 92, 93, 94, 95, 96, 97, 98, 99, 100, 101, 102, 103, 104, 105, 106, 107, 108, 109, 110, 111, 112, 113] (by decide +kernel) rfl
      refine lv_pop hx hb dL_law_2122 rfl ?_
      refine lv_aload_n hx hb dL_law_2123 rfl (lv_at hl 1 rfl) ?_
      refine lv_aload_n hx hb dL_law_2124 rfl (lv_at hl 3 rfl) ?_
      refine lv_iload_n hx hb dL_law_2125 rfl (lv_at hl 0 rfl) ?_
      refine lv_iconst (v := 1) hx hb dL_law_2126 (by decide) ?_
      refine lv_iadd hx hb dL_law_2127 ?_
      refine va_sld hx hb hXs hbl hbA hS (inK t1 (by omega) (by omega)) dL_law_2128 ?_
      refine W.eq (g2 := F0 m 2129 ls [.int 0, .ref h2]) (by rw [← ea1]) ?_
      refine lv_aload_n hx hb dL_law_2129 rfl (lv_at hl 3 rfl) ?_
      refine lv_iload_n hx hb dL_law_2130 rfl (lv_at hl 0 rfl) ?_
      refine lv_iconst (v := 2) hx hb dL_law_2131 (by decide) ?_
      refine lv_iadd hx hb dL_law_2132 ?_
      refine va_sld hx hb hXs hbl hbA hS (inK t2 (by omega) (by omega)) dL_law_2133 ?_
      refine W.eq (g2 := F0 m 2134 ls [.int a2, .int 0, .ref h2]) (by rw [← ea2]) ?_
      refine lv_aload_n hx hb dL_law_2134 rfl (lv_at hl 3 rfl) ?_
      refine lv_iload_n hx hb dL_law_2135 rfl (lv_at hl 0 rfl) ?_
      refine lv_iconst (v := 3) hx hb dL_law_2136 (by decide) ?_
      refine lv_iadd hx hb dL_law_2137 ?_
      refine va_sld hx hb hXs hbl hbA hS (inK t3 (by omega) (by omega)) dL_law_2138 ?_
      refine W.eq (g2 := F0 m 2139 ls [.int 2, .int a2, .int 0, .ref h2]) (by rw [← ea3]) ?_
      refine lv_aload_n hx hb dL_law_2139 rfl (lv_at hl 3 rfl) ?_
      refine lv_iload_n hx hb dL_law_2140 rfl (lv_at hl 0 rfl) ?_
      refine lv_iconst (v := 4) hx hb dL_law_2141 (by decide) ?_
      refine lv_iadd hx hb dL_law_2142 ?_
      refine va_sld hx hb hXs hbl hbA hS (inK t4 (by omega) (by omega)) dL_law_2143 ?_
      refine W.eq (g2 := F0 m 2144 ls [.int a4, .int 2, .int a2, .int 0, .ref h2]) (by rw [← ea4]) ?_
      refine lv_aload_n hx hb dL_law_2144 rfl (lv_at hl 3 rfl) ?_
      refine lv_iload_n hx hb dL_law_2145 rfl (lv_at hl 0 rfl) ?_
      refine lv_iconst (v := 5) hx hb dL_law_2146 (by decide) ?_
      refine lv_iadd hx hb dL_law_2147 ?_
      refine va_sld hx hb hXs hbl hbA hS (inK t5 (by omega) (by omega)) dL_law_2148 ?_
      refine W.eq (g2 := F0 m 2149 ls [.int a5, .int a4, .int 2, .int a2, .int 0, .ref h2]) (by rw [← ea5]) ?_
      refine behDi (wr := (XLW cs h1 Q F A (vA B 14 (vA (B 14) 0 y110)) D)) (runVD (As := [.int 0, .int a2, .int 2, .int a4, .int a5]) (rest := []) ⟨hx, hb, hml, hown, ht⟩ (sX11_paste l G cs h2 q2 MF MA MD MB hM.1 0 a2 2 a4 a5) okV_RL_279 ⟨(Nat.le_of_ble_eq_true rfl), (Nat.le_of_ble_eq_true rfl)⟩ hK hP hD [101, 102, 103, 104, 105, 106, 107, 108, 109, 110, 111, 112, 113, 114, 115, 116, 117, 118, 119, 120] rfl (by decide +kernel) rfl 101 rfl rfl hl.1 rfl (Nat.le_of_ble_eq_true rfl) dL_law_2149 ⟨(Nat.le_of_ble_eq_true rfl), (Nat.le_of_ble_eq_true rfl)⟩) hP hD hS (fun _ h => h) [101, 102, 103, 104, 105, 106, 107, 108, 109, 110, 111, 112, 113, 114, 115, 116, 117, 118, 119, 120] [0, 1, 2, 3, 4, 5, 6, 7, 8, 9, 10, 11, 12, 13, 14, 15, 16, 17, 18, 19, 20, 21, 22, 23, 24, 25, 26, 27, 28, 29, 30, 31, 32, 33, 34, 35, 36, 37, 38, 39, 40, 41, 42, 43, 44, 45, 46, 47, 48, 49, 50, 51, 52, 53, 54, 55, 56, 57, 58, 59, 60, 61, 62, 63, 64, 65, 66, 67, 68, 69, 70, 71, 72, 73, 74, 75, 76, 77, 78, 79, 80, 81, 82, 83, 84, 85, 86, 87, 88, 89, 90, 91, 92, 93, 94, 95, 96, 97, 98, 99, 100] rfl rfl (by decide +kernel) (by decide +kernel) (fun r9 u H locs hu hP hD hS => ?_)
      obtain ⟨y114, y115⟩ := u
      obtain ⟨r113, rfl⟩ : ∃ z, z = r9 := ⟨_, rfl⟩
      have hr113 := hu
      have kk116 : (0 : Int32).toInt = 0 := by decide
      have kk117 : (2 : Int32).toInt = 2 := by decide
      have hr113 : (r113.toInt = -2 ∧ ((0 : Int32).toInt < 0 ∨ 3 < (0 : Int32).toInt ∨ (2 : Int32).toInt < 0 ∨ 3 < (2 : Int32).toInt)) ∨ ((0 ≤ (0 : Int32).toInt ∧ (0 : Int32).toInt ≤ 3) ∧ (0 ≤ (2 : Int32).toInt ∧ (2 : Int32).toInt ≤ 3) ∧ (((MA 31) (0 : Int32).toNatClampNeg).toInt = -1 ∨ ((MA 31) (2 : Int32).toNatClampNeg).toInt = -1) ∧ r113.toInt = -6) ∨ ((0 ≤ (0 : Int32).toInt ∧ (0 : Int32).toInt ≤ 3) ∧ (0 ≤ (2 : Int32).toInt ∧ (2 : Int32).toInt ≤ 3) ∧ ¬ ((MA 31) (0 : Int32).toNatClampNeg).toInt = -1 ∧ ¬ ((MA 31) (2 : Int32).toNatClampNeg).toInt = -1 ∧ ¬ ((MA 32) (0 : Int32).toNatClampNeg).toInt = ((MA 32) (2 : Int32).toNatClampNeg).toInt ∧ r113.toInt = -8) ∨ ((0 ≤ (0 : Int32).toInt ∧ (0 : Int32).toInt ≤ 3) ∧ (0 ≤ (2 : Int32).toInt ∧ (2 : Int32).toInt ≤ 3) ∧ ¬ ((MA 31) (0 : Int32).toNatClampNeg).toInt = -1 ∧ ¬ ((MA 31) (2 : Int32).toNatClampNeg).toInt = -1 ∧ ((MA 32) (0 : Int32).toNatClampNeg).toInt = ((MA 32) (2 : Int32).toNatClampNeg).toInt ∧ (a2.toInt < 0 ∨ a4.toInt < 0 ∨ a5.toInt < 0 ∨ ((MA 31) (0 : Int32).toNatClampNeg).toInt < a2.toInt + a5.toInt ∨ ((MA 31) (2 : Int32).toNatClampNeg).toInt < a4.toInt + a5.toInt) ∧ r113.toInt = -7) ∨ ((0 ≤ (0 : Int32).toInt ∧ (0 : Int32).toInt ≤ 3) ∧ (0 ≤ (2 : Int32).toInt ∧ (2 : Int32).toInt ≤ 3) ∧ ¬ ((MA 31) (0 : Int32).toNatClampNeg).toInt = -1 ∧ ¬ ((MA 31) (2 : Int32).toNatClampNeg).toInt = -1 ∧ ((MA 32) (0 : Int32).toNatClampNeg).toInt = ((MA 32) (2 : Int32).toNatClampNeg).toInt ∧ ¬ (a2.toInt < 0 ∨ a4.toInt < 0 ∨ a5.toInt < 0 ∨ ((MA 31) (0 : Int32).toNatClampNeg).toInt < a2.toInt + a5.toInt ∨ ((MA 31) (2 : Int32).toNatClampNeg).toInt < a4.toInt + a5.toInt) ∧ r113.toInt = 0) := hr113
      have hP : va_P G vwCl (LW cs h1 Q h2 q2 F A (vA B 14 (vA (B 14) 0 y110)) D MF MA MD (vA (vA MB 33 y114) 34 y115)) H := hP
      have hD : va_D (fun q : Nat => s.heap.size ≤ q) (LW cs h1 Q h2 q2 F A (vA B 14 (vA (B 14) 0 y110)) D MF MA MD (vA (vA MB 33 y114) 34 y115)) := hD
      have n31_0 : (MA 31 (0 : Int32).toNatClampNeg).toInt = (MA 31 0).toInt := congrArg (fun z => (MA 31 z).toInt) (show (0 : Int32).toNatClampNeg = 0 by decide)
      have n32_0 : (MA 32 (0 : Int32).toNatClampNeg).toInt = (MA 32 0).toInt := congrArg (fun z => (MA 32 z).toInt) (show (0 : Int32).toNatClampNeg = 0 by decide)
      have nsr_0 : ((F 12 1).toInt = 0 ∧ (MA 31 0).toInt = -1) ∨ (¬ (F 12 1).toInt = 0 ∧ (MA 31 0).toInt = (F 12 3).toInt ∧ 0 ≤ (F 12 3).toInt ∧ (MA 32 0).toInt = (F 12 2).toInt) := hR.2.2.2.1
      have n31_2 : (MA 31 (2 : Int32).toNatClampNeg).toInt = (MA 31 2).toInt := congrArg (fun z => (MA 31 z).toInt) (show (2 : Int32).toNatClampNeg = 2 by decide)
      have n32_2 : (MA 32 (2 : Int32).toNatClampNeg).toInt = (MA 32 2).toInt := congrArg (fun z => (MA 32 z).toInt) (show (2 : Int32).toNatClampNeg = 2 by decide)
      have nsr_2 : ((F 14 1).toInt = 0 ∧ (MA 31 2).toInt = -1) ∨ (¬ (F 14 1).toInt = 0 ∧ (MA 31 2).toInt = (F 14 3).toInt ∧ 0 ≤ (F 14 3).toInt ∧ (MA 32 2).toInt = (F 14 2).toInt) := hR.2.2.2.2.2.1
      refine lv_pop hx hb dL_law_2152 rfl ?_
      refine lv_goto (tgt := 2156) hx hb dL_law_2153 (by decide) ?_
      exact kk F A (vA B 14 (vA (B 14) 0 y110)) D MF MA MD (vA (vA MB 33 y114) 34 y115) H locs ls ⟨hX.1, hX.2.1, hX.2.2.1, hX.2.2.2.1, hX.2.2.2.2.1, hX.2.2.2.2.2.1, hX.2.2.2.2.2.2.1, hX.2.2.2.2.2.2.2.1, hX.2.2.2.2.2.2.2.2.1, hX.2.2.2.2.2.2.2.2.2.1, hX.2.2.2.2.2.2.2.2.2.2.1, hX.2.2.2.2.2.2.2.2.2.2.2.1, hX.2.2.2.2.2.2.2.2.2.2.2.2.1, hX.2.2.2.2.2.2.2.2.2.2.2.2.2.1, hX.2.2.2.2.2.2.2.2.2.2.2.2.2.2.1, hX.2.2.2.2.2.2.2.2.2.2.2.2.2.2.2.1, hX.2.2.2.2.2.2.2.2.2.2.2.2.2.2.2.2.1, hX.2.2.2.2.2.2.2.2.2.2.2.2.2.2.2.2.2.1, hX.2.2.2.2.2.2.2.2.2.2.2.2.2.2.2.2.2.2.1, hX.2.2.2.2.2.2.2.2.2.2.2.2.2.2.2.2.2.2.2.1, hX.2.2.2.2.2.2.2.2.2.2.2.2.2.2.2.2.2.2.2.2.1, hX.2.2.2.2.2.2.2.2.2.2.2.2.2.2.2.2.2.2.2.2.2.1, hX.2.2.2.2.2.2.2.2.2.2.2.2.2.2.2.2.2.2.2.2.2.2.1, hX.2.2.2.2.2.2.2.2.2.2.2.2.2.2.2.2.2.2.2.2.2.2.2.1, hX.2.2.2.2.2.2.2.2.2.2.2.2.2.2.2.2.2.2.2.2.2.2.2.2.1, hX.2.2.2.2.2.2.2.2.2.2.2.2.2.2.2.2.2.2.2.2.2.2.2.2.2.1, hX.2.2.2.2.2.2.2.2.2.2.2.2.2.2.2.2.2.2.2.2.2.2.2.2.2.2⟩ ⟨hM.1, hM.2.1, hM.2.2⟩ hR hP hD hS hl
    · refine behDi (wr := ((uX6 cs (Q 0 0) (fun _ => Q 0 1) (F 1) (A 1) (B 1) (D 1)) ++ ((uX9 cs (Q 0 1) (Q 2) (F 2) (A 2) (B 2) (D 2)) ++ ((uX3 cs (Q 0 2) (Q 3) (F 3) (A 3) (B 3) (D 3)) ++ ((uX8 cs (Q 0 3) (Q 4) (F 4) (A 4) (B 4) (D 4)) ++ ((uX3 cs (Q 4 0) (Q 5) (F 5) (A 5) (B 5) (D 5)) ++ ((uX5 cs (Q 0 6) (Q 6) (F 6) (A 6) (B 6) (D 6)) ++ ((uX5 cs (Q 0 7) (Q 7) (F 7) (A 7) (B 7) (D 7)) ++ ((uX0 cs (Q 0 8) (Q 8) (F 8) (A 8) (B 8) (D 8)) ++ ((uX1 cs (Q 0 9) (Q 9) (F 9) (A 9) (B 9) (D 9)) ++ ((uX4 cs (Q 0 10) (Q 10) (F 10) (A 10) (B 10) (D 10)) ++ ((uX2 cs (Q 0 11) (Q 11) (F 11) (A 11) (B 11) (D 11)) ++ ((uX7 cs (Q 0 21) (Q 13) (F 13) (A 13) (B 13) (D 13)) ++ ((uX7 cs (Q 0 22) (Q 14) (F 14) (A 14) (B 14) (D 14)) ++ ((uX8 cs (Q 0 30) (Q 16) (F 16) (A 16) (B 16) (D 16)) ++ ((uX3 cs (Q 16 0) (Q 17) (F 17) (A 17) (B 17) (D 17)) ++ ((uX8 cs (Q 0 31) (Q 18) (F 18) (A 18) (B 18) (D 18)) ++ ((uX3 cs (Q 18 0) (Q 19) (F 19) (A 19) (B 19) (D 19)) ++ ((uX8 cs (Q 0 32) (Q 20) (F 20) (A 20) (B 20) (D 20)) ++ ((uX3 cs (Q 20 0) (Q 21) (F 21) (A 21) (B 21) (D 21)) ++ ((uX5 cs (Q 8 10) (Q 22) (F 22) (A 22) (B 22) (D 22)) ++ ((uX5 cs (Q 8 11) (Q 23) (F 23) (A 23) (B 23) (D 23)) ++ ((uX5 cs (Q 8 12) (Q 24) (F 24) (A 24) (B 24) (D 24)) ++ ((uX5 cs (Q 8 13) (Q 25) (F 25) (A 25) (B 25) (D 25)) ++ ((uX5 cs (Q 8 14) (Q 26) (F 26) (A 26) (B 26) (D 26)) ++ (mS cs h2 q2 MF MA MD MB)))))))))))))))))))))))))) (runVD (As := [.int 0, .int a2, .int 3, .int a4, .int a5]) (rest := []) ⟨hx, hb, hml, hown, ht⟩ (sX10_paste_0_3 l G cs h1 (Q 0) (F 0) (A 0) (B 0) (D 0) hX.1 (Q 12) (F 12) (A 12) (B 12) (D 12) hX.2.2.2.2.2.2.2.2.2.2.2.2.1 (Q 15) (F 15) (A 15) (B 15) (D 15) hX.2.2.2.2.2.2.2.2.2.2.2.2.2.2.2.1 a2 a4 a5) okV_RL_276 ⟨(Nat.le_of_ble_eq_true rfl), (Nat.le_of_ble_eq_true rfl)⟩ hK hP hD [0, 1, 2, 48, 49, 54, 55] rfl (by decide +kernel) rfl 0 rfl rfl hl.1 rfl (Nat.le_of_ble_eq_true rfl) dL_law_2119 ⟨(Nat.le_of_ble_eq_true rfl), (Nat.le_of_ble_eq_true rfl)⟩) hP hD hS (fun _ h => h) [0, 1, 2, 48, 49, 54, 55] [3, 4, 5, 6, 7, 8, 9, 10, 11, 12, 13, 14, 15, 16, 17, 18, 19, 20, 21, 22, 23, 24, 25, 26, 27, 28, 29, 30, 31, 32, 33, 34, 35, 36, 37, 38, 39, 40, 41, 42, 43, 44, 45, 46, 47, 50, 51, 52, 53, 56, 57, 58, 59, 60, 61, 62, 63, 64, 65, 66, 67, 68, 69, 70, 71, 72, 73, 74, 75, 76, 77, 78, 79, 80, 81, 82, 83, 84, 85, 86, 87, 88, 89, 90, 91, 92, 93, 94, 95, 96, 97, 98, 99, 100, 101, 102, 103, 104, 105, 106, 107, 108, 109, 110, 111, 112, 113, 114, 115, 116, 117, 118, 119, 120] rfl rfl (by decide +kernel) (by decide +kernel) (fun r9 u H locs hu hP hD hS => ?_)
      obtain ⟨y119, rfl⟩ : ∃ z, z = u := ⟨_, rfl⟩
      obtain ⟨r118, rfl⟩ : ∃ z, z = r9 := ⟨_, rfl⟩
      have hr118 := hu
      have kk120 : (0 : Int32).toInt = 0 := by decide
      have kk121 : (3 : Int32).toInt = 3 := by decide
      have hr118 : (((F 12 1).toInt = 0 ∨ (F 15 1).toInt = 0) ∧ r118.toInt = -6) ∨ (¬ (F 12 1).toInt = 0 ∧ ¬ (F 15 1).toInt = 0 ∧ ¬ (F 12 2).toInt = (F 15 2).toInt ∧ r118.toInt = -8) ∨ (¬ (F 12 1).toInt = 0 ∧ ¬ (F 15 1).toInt = 0 ∧ (F 12 2).toInt = (F 15 2).toInt ∧ (a2.toInt < 0 ∨ a4.toInt < 0 ∨ a5.toInt < 0 ∨ (F 12 3).toInt < a2.toInt + a5.toInt ∨ (F 15 3).toInt < a4.toInt + a5.toInt) ∧ r118.toInt = -7) ∨ (¬ (F 12 1).toInt = 0 ∧ ¬ (F 15 1).toInt = 0 ∧ (F 12 2).toInt = (F 15 2).toInt ∧ ¬ (a2.toInt < 0 ∨ a4.toInt < 0 ∨ a5.toInt < 0 ∨ (F 12 3).toInt < a2.toInt + a5.toInt ∨ (F 15 3).toInt < a4.toInt + a5.toInt) ∧ r118.toInt = 0) := hr118
      have hP : va_P G vwCl (LW cs h1 Q h2 q2 F A (vA B 15 (vA (B 15) 0 y119)) D MF MA MD MB) H := hP.sub [114, 115, 116, 0, 1, 2, 3, 4, 5, 6, 7, 8, 9, 10, 11, 12, 13, 14, 15, 16, 17, 18, 19, 20, 21, 22, 23, 24, 25, 26, 27, 28, 29, 30, 31, 32, 33, 34, 35, 36, 37, 38, 39, 40, 41, 42, 43, 44, 117, 118, 45, 46, 47, 48, 119, 120, 49, 50, 51, 52, 53, 54, 55, 56, 57, 58, 59, 60, 61, 62, 63, 64, 65, 66, 67, 68, 69, 70, 71, 72, 73, 74, 75, 76, 77, 78, 79, 80, 81, 82, 83, 84, 85, 86, 87, 88, 89, 90, 91, 92, 93, 94, 95, 96, 97, 98, 99, 100, 101, 102, 103, 104, 105, 106, 107, 108, 109, 110, 111, 112, 113] rfl
      have hD : va_D (fun q : Nat => s.heap.size ≤ q) (LW cs h1 Q h2 q2 F A (vA B 15 (vA (B 15) 0 y119)) D MF MA MD MB) := hD.sub [114, 115, 116, 0, 1, 2, 3, 4, 5, 6, 7, 8, 9, 10, 11, 12, 13, 14, 15, 16, 17, 18, 19, 20, 21, 22, 23, 24, 25, 26, 27, 28, 29, 30, 31, 32, 33, 34, 35, 36, 37, 38, 39, 40, 41, 42, 43, 44, 117, 118, 45, 46, 47, 48, 119, 120, 49, 50, 51, 52, 53, 54, 55, 56, 57, 58, 59, 60, 61, 62, 63, 64, 65, 66, 67, 68, 69, 70, 71, 72, 73, 74, 75, 76, 77, 78, 79, 80, 81, 82, 83, 84, 85, 86, 87, 88, 89, 90, 91, 92, 93, 94, 95, 96, 97, 98, 99, 100, 101, 102, 103, 104, 105, 106, 107, 108, 109, 110, 111, 112, 113] (by decide +kernel) rfl
      refine lv_pop hx hb dL_law_2122 rfl ?_
      refine lv_aload_n hx hb dL_law_2123 rfl (lv_at hl 1 rfl) ?_
      refine lv_aload_n hx hb dL_law_2124 rfl (lv_at hl 3 rfl) ?_
      refine lv_iload_n hx hb dL_law_2125 rfl (lv_at hl 0 rfl) ?_
      refine lv_iconst (v := 1) hx hb dL_law_2126 (by decide) ?_
      refine lv_iadd hx hb dL_law_2127 ?_
      refine va_sld hx hb hXs hbl hbA hS (inK t1 (by omega) (by omega)) dL_law_2128 ?_
      refine W.eq (g2 := F0 m 2129 ls [.int 0, .ref h2]) (by rw [← ea1]) ?_
      refine lv_aload_n hx hb dL_law_2129 rfl (lv_at hl 3 rfl) ?_
      refine lv_iload_n hx hb dL_law_2130 rfl (lv_at hl 0 rfl) ?_
      refine lv_iconst (v := 2) hx hb dL_law_2131 (by decide) ?_
      refine lv_iadd hx hb dL_law_2132 ?_
      refine va_sld hx hb hXs hbl hbA hS (inK t2 (by omega) (by omega)) dL_law_2133 ?_
      refine W.eq (g2 := F0 m 2134 ls [.int a2, .int 0, .ref h2]) (by rw [← ea2]) ?_
      refine lv_aload_n hx hb dL_law_2134 rfl (lv_at hl 3 rfl) ?_
      refine lv_iload_n hx hb dL_law_2135 rfl (lv_at hl 0 rfl) ?_
      refine lv_iconst (v := 3) hx hb dL_law_2136 (by decide) ?_
      refine lv_iadd hx hb dL_law_2137 ?_
      refine va_sld hx hb hXs hbl hbA hS (inK t3 (by omega) (by omega)) dL_law_2138 ?_
      refine W.eq (g2 := F0 m 2139 ls [.int 3, .int a2, .int 0, .ref h2]) (by rw [← ea3]) ?_
      refine lv_aload_n hx hb dL_law_2139 rfl (lv_at hl 3 rfl) ?_
      refine lv_iload_n hx hb dL_law_2140 rfl (lv_at hl 0 rfl) ?_
      refine lv_iconst (v := 4) hx hb dL_law_2141 (by decide) ?_
      refine lv_iadd hx hb dL_law_2142 ?_
      refine va_sld hx hb hXs hbl hbA hS (inK t4 (by omega) (by omega)) dL_law_2143 ?_
      refine W.eq (g2 := F0 m 2144 ls [.int a4, .int 3, .int a2, .int 0, .ref h2]) (by rw [← ea4]) ?_
      refine lv_aload_n hx hb dL_law_2144 rfl (lv_at hl 3 rfl) ?_
      refine lv_iload_n hx hb dL_law_2145 rfl (lv_at hl 0 rfl) ?_
      refine lv_iconst (v := 5) hx hb dL_law_2146 (by decide) ?_
      refine lv_iadd hx hb dL_law_2147 ?_
      refine va_sld hx hb hXs hbl hbA hS (inK t5 (by omega) (by omega)) dL_law_2148 ?_
      refine W.eq (g2 := F0 m 2149 ls [.int a5, .int a4, .int 3, .int a2, .int 0, .ref h2]) (by rw [← ea5]) ?_
      refine behDi (wr := (XLW cs h1 Q F A (vA B 15 (vA (B 15) 0 y119)) D)) (runVD (As := [.int 0, .int a2, .int 3, .int a4, .int a5]) (rest := []) ⟨hx, hb, hml, hown, ht⟩ (sX11_paste l G cs h2 q2 MF MA MD MB hM.1 0 a2 3 a4 a5) okV_RL_279 ⟨(Nat.le_of_ble_eq_true rfl), (Nat.le_of_ble_eq_true rfl)⟩ hK hP hD [101, 102, 103, 104, 105, 106, 107, 108, 109, 110, 111, 112, 113, 114, 115, 116, 117, 118, 119, 120] rfl (by decide +kernel) rfl 101 rfl rfl hl.1 rfl (Nat.le_of_ble_eq_true rfl) dL_law_2149 ⟨(Nat.le_of_ble_eq_true rfl), (Nat.le_of_ble_eq_true rfl)⟩) hP hD hS (fun _ h => h) [101, 102, 103, 104, 105, 106, 107, 108, 109, 110, 111, 112, 113, 114, 115, 116, 117, 118, 119, 120] [0, 1, 2, 3, 4, 5, 6, 7, 8, 9, 10, 11, 12, 13, 14, 15, 16, 17, 18, 19, 20, 21, 22, 23, 24, 25, 26, 27, 28, 29, 30, 31, 32, 33, 34, 35, 36, 37, 38, 39, 40, 41, 42, 43, 44, 45, 46, 47, 48, 49, 50, 51, 52, 53, 54, 55, 56, 57, 58, 59, 60, 61, 62, 63, 64, 65, 66, 67, 68, 69, 70, 71, 72, 73, 74, 75, 76, 77, 78, 79, 80, 81, 82, 83, 84, 85, 86, 87, 88, 89, 90, 91, 92, 93, 94, 95, 96, 97, 98, 99, 100] rfl rfl (by decide +kernel) (by decide +kernel) (fun r9 u H locs hu hP hD hS => ?_)
      obtain ⟨y123, y124⟩ := u
      obtain ⟨r122, rfl⟩ : ∃ z, z = r9 := ⟨_, rfl⟩
      have hr122 := hu
      have kk125 : (0 : Int32).toInt = 0 := by decide
      have kk126 : (3 : Int32).toInt = 3 := by decide
      have hr122 : (r122.toInt = -2 ∧ ((0 : Int32).toInt < 0 ∨ 3 < (0 : Int32).toInt ∨ (3 : Int32).toInt < 0 ∨ 3 < (3 : Int32).toInt)) ∨ ((0 ≤ (0 : Int32).toInt ∧ (0 : Int32).toInt ≤ 3) ∧ (0 ≤ (3 : Int32).toInt ∧ (3 : Int32).toInt ≤ 3) ∧ (((MA 31) (0 : Int32).toNatClampNeg).toInt = -1 ∨ ((MA 31) (3 : Int32).toNatClampNeg).toInt = -1) ∧ r122.toInt = -6) ∨ ((0 ≤ (0 : Int32).toInt ∧ (0 : Int32).toInt ≤ 3) ∧ (0 ≤ (3 : Int32).toInt ∧ (3 : Int32).toInt ≤ 3) ∧ ¬ ((MA 31) (0 : Int32).toNatClampNeg).toInt = -1 ∧ ¬ ((MA 31) (3 : Int32).toNatClampNeg).toInt = -1 ∧ ¬ ((MA 32) (0 : Int32).toNatClampNeg).toInt = ((MA 32) (3 : Int32).toNatClampNeg).toInt ∧ r122.toInt = -8) ∨ ((0 ≤ (0 : Int32).toInt ∧ (0 : Int32).toInt ≤ 3) ∧ (0 ≤ (3 : Int32).toInt ∧ (3 : Int32).toInt ≤ 3) ∧ ¬ ((MA 31) (0 : Int32).toNatClampNeg).toInt = -1 ∧ ¬ ((MA 31) (3 : Int32).toNatClampNeg).toInt = -1 ∧ ((MA 32) (0 : Int32).toNatClampNeg).toInt = ((MA 32) (3 : Int32).toNatClampNeg).toInt ∧ (a2.toInt < 0 ∨ a4.toInt < 0 ∨ a5.toInt < 0 ∨ ((MA 31) (0 : Int32).toNatClampNeg).toInt < a2.toInt + a5.toInt ∨ ((MA 31) (3 : Int32).toNatClampNeg).toInt < a4.toInt + a5.toInt) ∧ r122.toInt = -7) ∨ ((0 ≤ (0 : Int32).toInt ∧ (0 : Int32).toInt ≤ 3) ∧ (0 ≤ (3 : Int32).toInt ∧ (3 : Int32).toInt ≤ 3) ∧ ¬ ((MA 31) (0 : Int32).toNatClampNeg).toInt = -1 ∧ ¬ ((MA 31) (3 : Int32).toNatClampNeg).toInt = -1 ∧ ((MA 32) (0 : Int32).toNatClampNeg).toInt = ((MA 32) (3 : Int32).toNatClampNeg).toInt ∧ ¬ (a2.toInt < 0 ∨ a4.toInt < 0 ∨ a5.toInt < 0 ∨ ((MA 31) (0 : Int32).toNatClampNeg).toInt < a2.toInt + a5.toInt ∨ ((MA 31) (3 : Int32).toNatClampNeg).toInt < a4.toInt + a5.toInt) ∧ r122.toInt = 0) := hr122
      have hP : va_P G vwCl (LW cs h1 Q h2 q2 F A (vA B 15 (vA (B 15) 0 y119)) D MF MA MD (vA (vA MB 33 y123) 34 y124)) H := hP
      have hD : va_D (fun q : Nat => s.heap.size ≤ q) (LW cs h1 Q h2 q2 F A (vA B 15 (vA (B 15) 0 y119)) D MF MA MD (vA (vA MB 33 y123) 34 y124)) := hD
      have n31_0 : (MA 31 (0 : Int32).toNatClampNeg).toInt = (MA 31 0).toInt := congrArg (fun z => (MA 31 z).toInt) (show (0 : Int32).toNatClampNeg = 0 by decide)
      have n32_0 : (MA 32 (0 : Int32).toNatClampNeg).toInt = (MA 32 0).toInt := congrArg (fun z => (MA 32 z).toInt) (show (0 : Int32).toNatClampNeg = 0 by decide)
      have nsr_0 : ((F 12 1).toInt = 0 ∧ (MA 31 0).toInt = -1) ∨ (¬ (F 12 1).toInt = 0 ∧ (MA 31 0).toInt = (F 12 3).toInt ∧ 0 ≤ (F 12 3).toInt ∧ (MA 32 0).toInt = (F 12 2).toInt) := hR.2.2.2.1
      have n31_3 : (MA 31 (3 : Int32).toNatClampNeg).toInt = (MA 31 3).toInt := congrArg (fun z => (MA 31 z).toInt) (show (3 : Int32).toNatClampNeg = 3 by decide)
      have n32_3 : (MA 32 (3 : Int32).toNatClampNeg).toInt = (MA 32 3).toInt := congrArg (fun z => (MA 32 z).toInt) (show (3 : Int32).toNatClampNeg = 3 by decide)
      have nsr_3 : ((F 15 1).toInt = 0 ∧ (MA 31 3).toInt = -1) ∨ (¬ (F 15 1).toInt = 0 ∧ (MA 31 3).toInt = (F 15 3).toInt ∧ 0 ≤ (F 15 3).toInt ∧ (MA 32 3).toInt = (F 15 2).toInt) := hR.2.2.2.2.2.2
      refine lv_pop hx hb dL_law_2152 rfl ?_
      refine lv_goto (tgt := 2156) hx hb dL_law_2153 (by decide) ?_
      exact kk F A (vA B 15 (vA (B 15) 0 y119)) D MF MA MD (vA (vA MB 33 y123) 34 y124) H locs ls ⟨hX.1, hX.2.1, hX.2.2.1, hX.2.2.2.1, hX.2.2.2.2.1, hX.2.2.2.2.2.1, hX.2.2.2.2.2.2.1, hX.2.2.2.2.2.2.2.1, hX.2.2.2.2.2.2.2.2.1, hX.2.2.2.2.2.2.2.2.2.1, hX.2.2.2.2.2.2.2.2.2.2.1, hX.2.2.2.2.2.2.2.2.2.2.2.1, hX.2.2.2.2.2.2.2.2.2.2.2.2.1, hX.2.2.2.2.2.2.2.2.2.2.2.2.2.1, hX.2.2.2.2.2.2.2.2.2.2.2.2.2.2.1, hX.2.2.2.2.2.2.2.2.2.2.2.2.2.2.2.1, hX.2.2.2.2.2.2.2.2.2.2.2.2.2.2.2.2.1, hX.2.2.2.2.2.2.2.2.2.2.2.2.2.2.2.2.2.1, hX.2.2.2.2.2.2.2.2.2.2.2.2.2.2.2.2.2.2.1, hX.2.2.2.2.2.2.2.2.2.2.2.2.2.2.2.2.2.2.2.1, hX.2.2.2.2.2.2.2.2.2.2.2.2.2.2.2.2.2.2.2.2.1, hX.2.2.2.2.2.2.2.2.2.2.2.2.2.2.2.2.2.2.2.2.2.1, hX.2.2.2.2.2.2.2.2.2.2.2.2.2.2.2.2.2.2.2.2.2.2.1, hX.2.2.2.2.2.2.2.2.2.2.2.2.2.2.2.2.2.2.2.2.2.2.2.1, hX.2.2.2.2.2.2.2.2.2.2.2.2.2.2.2.2.2.2.2.2.2.2.2.2.1, hX.2.2.2.2.2.2.2.2.2.2.2.2.2.2.2.2.2.2.2.2.2.2.2.2.2.1, hX.2.2.2.2.2.2.2.2.2.2.2.2.2.2.2.2.2.2.2.2.2.2.2.2.2.2⟩ ⟨hM.1, hM.2.1, hM.2.2⟩ hR hP hD hS hl
  · rcases csN4 a3 with hN | hN | rfl | rfl | rfl | rfl
    · have bb127 := i32b a3
      refine behR (runVP (As := [.int 1, .int a2, .int a3, .int a4, .int a5]) (rest := []) ⟨hx, hb, hml, hown, ht⟩ (sX10_paste_tolo l G cs h1 (Q 0) (F 0) (A 0) (B 0) (D 0) hX.1 1 a2 a3 a4 a5 (by decide) (by omega)) okV_RL_276 ⟨(Nat.le_of_ble_eq_true rfl), (Nat.le_of_ble_eq_true rfl)⟩ hK hP [0, 1, 2] rfl 0 rfl rfl hl.1 rfl (Nat.le_of_ble_eq_true rfl) dL_law_2119 ⟨(Nat.le_of_ble_eq_true rfl), (Nat.le_of_ble_eq_true rfl)⟩) hP hS (fun _ h => h) (fun r128 H locs hr128 hP hS => ?_)
      have kk129 : (1 : Int32).toInt = 1 := by decide
      have hr128 : r128.toInt = -2 := hr128
      refine lv_pop hx hb dL_law_2122 rfl ?_
      refine lv_aload_n hx hb dL_law_2123 rfl (lv_at hl 1 rfl) ?_
      refine lv_aload_n hx hb dL_law_2124 rfl (lv_at hl 3 rfl) ?_
      refine lv_iload_n hx hb dL_law_2125 rfl (lv_at hl 0 rfl) ?_
      refine lv_iconst (v := 1) hx hb dL_law_2126 (by decide) ?_
      refine lv_iadd hx hb dL_law_2127 ?_
      refine va_sld hx hb hXs hbl hbA hS (inK t1 (by omega) (by omega)) dL_law_2128 ?_
      refine W.eq (g2 := F0 m 2129 ls [.int 1, .ref h2]) (by rw [← ea1]) ?_
      refine lv_aload_n hx hb dL_law_2129 rfl (lv_at hl 3 rfl) ?_
      refine lv_iload_n hx hb dL_law_2130 rfl (lv_at hl 0 rfl) ?_
      refine lv_iconst (v := 2) hx hb dL_law_2131 (by decide) ?_
      refine lv_iadd hx hb dL_law_2132 ?_
      refine va_sld hx hb hXs hbl hbA hS (inK t2 (by omega) (by omega)) dL_law_2133 ?_
      refine W.eq (g2 := F0 m 2134 ls [.int a2, .int 1, .ref h2]) (by rw [← ea2]) ?_
      refine lv_aload_n hx hb dL_law_2134 rfl (lv_at hl 3 rfl) ?_
      refine lv_iload_n hx hb dL_law_2135 rfl (lv_at hl 0 rfl) ?_
      refine lv_iconst (v := 3) hx hb dL_law_2136 (by decide) ?_
      refine lv_iadd hx hb dL_law_2137 ?_
      refine va_sld hx hb hXs hbl hbA hS (inK t3 (by omega) (by omega)) dL_law_2138 ?_
      refine W.eq (g2 := F0 m 2139 ls [.int a3, .int a2, .int 1, .ref h2]) (by rw [← ea3]) ?_
      refine lv_aload_n hx hb dL_law_2139 rfl (lv_at hl 3 rfl) ?_
      refine lv_iload_n hx hb dL_law_2140 rfl (lv_at hl 0 rfl) ?_
      refine lv_iconst (v := 4) hx hb dL_law_2141 (by decide) ?_
      refine lv_iadd hx hb dL_law_2142 ?_
      refine va_sld hx hb hXs hbl hbA hS (inK t4 (by omega) (by omega)) dL_law_2143 ?_
      refine W.eq (g2 := F0 m 2144 ls [.int a4, .int a3, .int a2, .int 1, .ref h2]) (by rw [← ea4]) ?_
      refine lv_aload_n hx hb dL_law_2144 rfl (lv_at hl 3 rfl) ?_
      refine lv_iload_n hx hb dL_law_2145 rfl (lv_at hl 0 rfl) ?_
      refine lv_iconst (v := 5) hx hb dL_law_2146 (by decide) ?_
      refine lv_iadd hx hb dL_law_2147 ?_
      refine va_sld hx hb hXs hbl hbA hS (inK t5 (by omega) (by omega)) dL_law_2148 ?_
      refine W.eq (g2 := F0 m 2149 ls [.int a5, .int a4, .int a3, .int a2, .int 1, .ref h2]) (by rw [← ea5]) ?_
      refine behDi (wr := (XLW cs h1 Q F A B D)) (runVD (As := [.int 1, .int a2, .int a3, .int a4, .int a5]) (rest := []) ⟨hx, hb, hml, hown, ht⟩ (sX11_paste l G cs h2 q2 MF MA MD MB hM.1 1 a2 a3 a4 a5) okV_RL_279 ⟨(Nat.le_of_ble_eq_true rfl), (Nat.le_of_ble_eq_true rfl)⟩ hK hP hD [101, 102, 103, 104, 105, 106, 107, 108, 109, 110, 111, 112, 113, 114, 115, 116, 117, 118, 119, 120] rfl (by decide +kernel) rfl 101 rfl rfl hl.1 rfl (Nat.le_of_ble_eq_true rfl) dL_law_2149 ⟨(Nat.le_of_ble_eq_true rfl), (Nat.le_of_ble_eq_true rfl)⟩) hP hD hS (fun _ h => h) [101, 102, 103, 104, 105, 106, 107, 108, 109, 110, 111, 112, 113, 114, 115, 116, 117, 118, 119, 120] [0, 1, 2, 3, 4, 5, 6, 7, 8, 9, 10, 11, 12, 13, 14, 15, 16, 17, 18, 19, 20, 21, 22, 23, 24, 25, 26, 27, 28, 29, 30, 31, 32, 33, 34, 35, 36, 37, 38, 39, 40, 41, 42, 43, 44, 45, 46, 47, 48, 49, 50, 51, 52, 53, 54, 55, 56, 57, 58, 59, 60, 61, 62, 63, 64, 65, 66, 67, 68, 69, 70, 71, 72, 73, 74, 75, 76, 77, 78, 79, 80, 81, 82, 83, 84, 85, 86, 87, 88, 89, 90, 91, 92, 93, 94, 95, 96, 97, 98, 99, 100] rfl rfl (by decide +kernel) (by decide +kernel) (fun r9 u H locs hu hP hD hS => ?_)
      obtain ⟨y131, y132⟩ := u
      obtain ⟨r130, rfl⟩ : ∃ z, z = r9 := ⟨_, rfl⟩
      have hr130 := hu
      have kk133 : (1 : Int32).toInt = 1 := by decide
      have hr130 : (r130.toInt = -2 ∧ ((1 : Int32).toInt < 0 ∨ 3 < (1 : Int32).toInt ∨ a3.toInt < 0 ∨ 3 < a3.toInt)) ∨ ((0 ≤ (1 : Int32).toInt ∧ (1 : Int32).toInt ≤ 3) ∧ (0 ≤ a3.toInt ∧ a3.toInt ≤ 3) ∧ (((MA 31) (1 : Int32).toNatClampNeg).toInt = -1 ∨ ((MA 31) a3.toNatClampNeg).toInt = -1) ∧ r130.toInt = -6) ∨ ((0 ≤ (1 : Int32).toInt ∧ (1 : Int32).toInt ≤ 3) ∧ (0 ≤ a3.toInt ∧ a3.toInt ≤ 3) ∧ ¬ ((MA 31) (1 : Int32).toNatClampNeg).toInt = -1 ∧ ¬ ((MA 31) a3.toNatClampNeg).toInt = -1 ∧ ¬ ((MA 32) (1 : Int32).toNatClampNeg).toInt = ((MA 32) a3.toNatClampNeg).toInt ∧ r130.toInt = -8) ∨ ((0 ≤ (1 : Int32).toInt ∧ (1 : Int32).toInt ≤ 3) ∧ (0 ≤ a3.toInt ∧ a3.toInt ≤ 3) ∧ ¬ ((MA 31) (1 : Int32).toNatClampNeg).toInt = -1 ∧ ¬ ((MA 31) a3.toNatClampNeg).toInt = -1 ∧ ((MA 32) (1 : Int32).toNatClampNeg).toInt = ((MA 32) a3.toNatClampNeg).toInt ∧ (a2.toInt < 0 ∨ a4.toInt < 0 ∨ a5.toInt < 0 ∨ ((MA 31) (1 : Int32).toNatClampNeg).toInt < a2.toInt + a5.toInt ∨ ((MA 31) a3.toNatClampNeg).toInt < a4.toInt + a5.toInt) ∧ r130.toInt = -7) ∨ ((0 ≤ (1 : Int32).toInt ∧ (1 : Int32).toInt ≤ 3) ∧ (0 ≤ a3.toInt ∧ a3.toInt ≤ 3) ∧ ¬ ((MA 31) (1 : Int32).toNatClampNeg).toInt = -1 ∧ ¬ ((MA 31) a3.toNatClampNeg).toInt = -1 ∧ ((MA 32) (1 : Int32).toNatClampNeg).toInt = ((MA 32) a3.toNatClampNeg).toInt ∧ ¬ (a2.toInt < 0 ∨ a4.toInt < 0 ∨ a5.toInt < 0 ∨ ((MA 31) (1 : Int32).toNatClampNeg).toInt < a2.toInt + a5.toInt ∨ ((MA 31) a3.toNatClampNeg).toInt < a4.toInt + a5.toInt) ∧ r130.toInt = 0) := hr130
      have hP : va_P G vwCl (LW cs h1 Q h2 q2 F A B D MF MA MD (vA (vA MB 33 y131) 34 y132)) H := hP
      have hD : va_D (fun q : Nat => s.heap.size ≤ q) (LW cs h1 Q h2 q2 F A B D MF MA MD (vA (vA MB 33 y131) 34 y132)) := hD
      have n31_1 : (MA 31 (1 : Int32).toNatClampNeg).toInt = (MA 31 1).toInt := congrArg (fun z => (MA 31 z).toInt) (show (1 : Int32).toNatClampNeg = 1 by decide)
      have n32_1 : (MA 32 (1 : Int32).toNatClampNeg).toInt = (MA 32 1).toInt := congrArg (fun z => (MA 32 z).toInt) (show (1 : Int32).toNatClampNeg = 1 by decide)
      have nsr_1 : ((F 13 1).toInt = 0 ∧ (MA 31 1).toInt = -1) ∨ (¬ (F 13 1).toInt = 0 ∧ (MA 31 1).toInt = (F 13 3).toInt ∧ 0 ≤ (F 13 3).toInt ∧ (MA 32 1).toInt = (F 13 2).toInt) := hR.2.2.2.2.1
      refine lv_pop hx hb dL_law_2152 rfl ?_
      refine lv_goto (tgt := 2156) hx hb dL_law_2153 (by decide) ?_
      exact kk F A B D MF MA MD (vA (vA MB 33 y131) 34 y132) H locs ls ⟨hX.1, hX.2.1, hX.2.2.1, hX.2.2.2.1, hX.2.2.2.2.1, hX.2.2.2.2.2.1, hX.2.2.2.2.2.2.1, hX.2.2.2.2.2.2.2.1, hX.2.2.2.2.2.2.2.2.1, hX.2.2.2.2.2.2.2.2.2.1, hX.2.2.2.2.2.2.2.2.2.2.1, hX.2.2.2.2.2.2.2.2.2.2.2.1, hX.2.2.2.2.2.2.2.2.2.2.2.2.1, hX.2.2.2.2.2.2.2.2.2.2.2.2.2.1, hX.2.2.2.2.2.2.2.2.2.2.2.2.2.2.1, hX.2.2.2.2.2.2.2.2.2.2.2.2.2.2.2.1, hX.2.2.2.2.2.2.2.2.2.2.2.2.2.2.2.2.1, hX.2.2.2.2.2.2.2.2.2.2.2.2.2.2.2.2.2.1, hX.2.2.2.2.2.2.2.2.2.2.2.2.2.2.2.2.2.2.1, hX.2.2.2.2.2.2.2.2.2.2.2.2.2.2.2.2.2.2.2.1, hX.2.2.2.2.2.2.2.2.2.2.2.2.2.2.2.2.2.2.2.2.1, hX.2.2.2.2.2.2.2.2.2.2.2.2.2.2.2.2.2.2.2.2.2.1, hX.2.2.2.2.2.2.2.2.2.2.2.2.2.2.2.2.2.2.2.2.2.2.1, hX.2.2.2.2.2.2.2.2.2.2.2.2.2.2.2.2.2.2.2.2.2.2.2.1, hX.2.2.2.2.2.2.2.2.2.2.2.2.2.2.2.2.2.2.2.2.2.2.2.2.1, hX.2.2.2.2.2.2.2.2.2.2.2.2.2.2.2.2.2.2.2.2.2.2.2.2.2.1, hX.2.2.2.2.2.2.2.2.2.2.2.2.2.2.2.2.2.2.2.2.2.2.2.2.2.2⟩ ⟨hM.1, hM.2.1, hM.2.2⟩ hR hP hD hS hl
    · have bb134 := i32b a3
      refine behR (runVP (As := [.int 1, .int a2, .int a3, .int a4, .int a5]) (rest := []) ⟨hx, hb, hml, hown, ht⟩ (sX10_paste_tohi l G cs h1 (Q 0) (F 0) (A 0) (B 0) (D 0) hX.1 1 a2 a3 a4 a5 (by decide) (by omega)) okV_RL_276 ⟨(Nat.le_of_ble_eq_true rfl), (Nat.le_of_ble_eq_true rfl)⟩ hK hP [0, 1, 2] rfl 0 rfl rfl hl.1 rfl (Nat.le_of_ble_eq_true rfl) dL_law_2119 ⟨(Nat.le_of_ble_eq_true rfl), (Nat.le_of_ble_eq_true rfl)⟩) hP hS (fun _ h => h) (fun r135 H locs hr135 hP hS => ?_)
      have kk136 : (1 : Int32).toInt = 1 := by decide
      have hr135 : r135.toInt = -2 := hr135
      refine lv_pop hx hb dL_law_2122 rfl ?_
      refine lv_aload_n hx hb dL_law_2123 rfl (lv_at hl 1 rfl) ?_
      refine lv_aload_n hx hb dL_law_2124 rfl (lv_at hl 3 rfl) ?_
      refine lv_iload_n hx hb dL_law_2125 rfl (lv_at hl 0 rfl) ?_
      refine lv_iconst (v := 1) hx hb dL_law_2126 (by decide) ?_
      refine lv_iadd hx hb dL_law_2127 ?_
      refine va_sld hx hb hXs hbl hbA hS (inK t1 (by omega) (by omega)) dL_law_2128 ?_
      refine W.eq (g2 := F0 m 2129 ls [.int 1, .ref h2]) (by rw [← ea1]) ?_
      refine lv_aload_n hx hb dL_law_2129 rfl (lv_at hl 3 rfl) ?_
      refine lv_iload_n hx hb dL_law_2130 rfl (lv_at hl 0 rfl) ?_
      refine lv_iconst (v := 2) hx hb dL_law_2131 (by decide) ?_
      refine lv_iadd hx hb dL_law_2132 ?_
      refine va_sld hx hb hXs hbl hbA hS (inK t2 (by omega) (by omega)) dL_law_2133 ?_
      refine W.eq (g2 := F0 m 2134 ls [.int a2, .int 1, .ref h2]) (by rw [← ea2]) ?_
      refine lv_aload_n hx hb dL_law_2134 rfl (lv_at hl 3 rfl) ?_
      refine lv_iload_n hx hb dL_law_2135 rfl (lv_at hl 0 rfl) ?_
      refine lv_iconst (v := 3) hx hb dL_law_2136 (by decide) ?_
      refine lv_iadd hx hb dL_law_2137 ?_
      refine va_sld hx hb hXs hbl hbA hS (inK t3 (by omega) (by omega)) dL_law_2138 ?_
      refine W.eq (g2 := F0 m 2139 ls [.int a3, .int a2, .int 1, .ref h2]) (by rw [← ea3]) ?_
      refine lv_aload_n hx hb dL_law_2139 rfl (lv_at hl 3 rfl) ?_
      refine lv_iload_n hx hb dL_law_2140 rfl (lv_at hl 0 rfl) ?_
      refine lv_iconst (v := 4) hx hb dL_law_2141 (by decide) ?_
      refine lv_iadd hx hb dL_law_2142 ?_
      refine va_sld hx hb hXs hbl hbA hS (inK t4 (by omega) (by omega)) dL_law_2143 ?_
      refine W.eq (g2 := F0 m 2144 ls [.int a4, .int a3, .int a2, .int 1, .ref h2]) (by rw [← ea4]) ?_
      refine lv_aload_n hx hb dL_law_2144 rfl (lv_at hl 3 rfl) ?_
      refine lv_iload_n hx hb dL_law_2145 rfl (lv_at hl 0 rfl) ?_
      refine lv_iconst (v := 5) hx hb dL_law_2146 (by decide) ?_
      refine lv_iadd hx hb dL_law_2147 ?_
      refine va_sld hx hb hXs hbl hbA hS (inK t5 (by omega) (by omega)) dL_law_2148 ?_
      refine W.eq (g2 := F0 m 2149 ls [.int a5, .int a4, .int a3, .int a2, .int 1, .ref h2]) (by rw [← ea5]) ?_
      refine behDi (wr := (XLW cs h1 Q F A B D)) (runVD (As := [.int 1, .int a2, .int a3, .int a4, .int a5]) (rest := []) ⟨hx, hb, hml, hown, ht⟩ (sX11_paste l G cs h2 q2 MF MA MD MB hM.1 1 a2 a3 a4 a5) okV_RL_279 ⟨(Nat.le_of_ble_eq_true rfl), (Nat.le_of_ble_eq_true rfl)⟩ hK hP hD [101, 102, 103, 104, 105, 106, 107, 108, 109, 110, 111, 112, 113, 114, 115, 116, 117, 118, 119, 120] rfl (by decide +kernel) rfl 101 rfl rfl hl.1 rfl (Nat.le_of_ble_eq_true rfl) dL_law_2149 ⟨(Nat.le_of_ble_eq_true rfl), (Nat.le_of_ble_eq_true rfl)⟩) hP hD hS (fun _ h => h) [101, 102, 103, 104, 105, 106, 107, 108, 109, 110, 111, 112, 113, 114, 115, 116, 117, 118, 119, 120] [0, 1, 2, 3, 4, 5, 6, 7, 8, 9, 10, 11, 12, 13, 14, 15, 16, 17, 18, 19, 20, 21, 22, 23, 24, 25, 26, 27, 28, 29, 30, 31, 32, 33, 34, 35, 36, 37, 38, 39, 40, 41, 42, 43, 44, 45, 46, 47, 48, 49, 50, 51, 52, 53, 54, 55, 56, 57, 58, 59, 60, 61, 62, 63, 64, 65, 66, 67, 68, 69, 70, 71, 72, 73, 74, 75, 76, 77, 78, 79, 80, 81, 82, 83, 84, 85, 86, 87, 88, 89, 90, 91, 92, 93, 94, 95, 96, 97, 98, 99, 100] rfl rfl (by decide +kernel) (by decide +kernel) (fun r9 u H locs hu hP hD hS => ?_)
      obtain ⟨y138, y139⟩ := u
      obtain ⟨r137, rfl⟩ : ∃ z, z = r9 := ⟨_, rfl⟩
      have hr137 := hu
      have kk140 : (1 : Int32).toInt = 1 := by decide
      have hr137 : (r137.toInt = -2 ∧ ((1 : Int32).toInt < 0 ∨ 3 < (1 : Int32).toInt ∨ a3.toInt < 0 ∨ 3 < a3.toInt)) ∨ ((0 ≤ (1 : Int32).toInt ∧ (1 : Int32).toInt ≤ 3) ∧ (0 ≤ a3.toInt ∧ a3.toInt ≤ 3) ∧ (((MA 31) (1 : Int32).toNatClampNeg).toInt = -1 ∨ ((MA 31) a3.toNatClampNeg).toInt = -1) ∧ r137.toInt = -6) ∨ ((0 ≤ (1 : Int32).toInt ∧ (1 : Int32).toInt ≤ 3) ∧ (0 ≤ a3.toInt ∧ a3.toInt ≤ 3) ∧ ¬ ((MA 31) (1 : Int32).toNatClampNeg).toInt = -1 ∧ ¬ ((MA 31) a3.toNatClampNeg).toInt = -1 ∧ ¬ ((MA 32) (1 : Int32).toNatClampNeg).toInt = ((MA 32) a3.toNatClampNeg).toInt ∧ r137.toInt = -8) ∨ ((0 ≤ (1 : Int32).toInt ∧ (1 : Int32).toInt ≤ 3) ∧ (0 ≤ a3.toInt ∧ a3.toInt ≤ 3) ∧ ¬ ((MA 31) (1 : Int32).toNatClampNeg).toInt = -1 ∧ ¬ ((MA 31) a3.toNatClampNeg).toInt = -1 ∧ ((MA 32) (1 : Int32).toNatClampNeg).toInt = ((MA 32) a3.toNatClampNeg).toInt ∧ (a2.toInt < 0 ∨ a4.toInt < 0 ∨ a5.toInt < 0 ∨ ((MA 31) (1 : Int32).toNatClampNeg).toInt < a2.toInt + a5.toInt ∨ ((MA 31) a3.toNatClampNeg).toInt < a4.toInt + a5.toInt) ∧ r137.toInt = -7) ∨ ((0 ≤ (1 : Int32).toInt ∧ (1 : Int32).toInt ≤ 3) ∧ (0 ≤ a3.toInt ∧ a3.toInt ≤ 3) ∧ ¬ ((MA 31) (1 : Int32).toNatClampNeg).toInt = -1 ∧ ¬ ((MA 31) a3.toNatClampNeg).toInt = -1 ∧ ((MA 32) (1 : Int32).toNatClampNeg).toInt = ((MA 32) a3.toNatClampNeg).toInt ∧ ¬ (a2.toInt < 0 ∨ a4.toInt < 0 ∨ a5.toInt < 0 ∨ ((MA 31) (1 : Int32).toNatClampNeg).toInt < a2.toInt + a5.toInt ∨ ((MA 31) a3.toNatClampNeg).toInt < a4.toInt + a5.toInt) ∧ r137.toInt = 0) := hr137
      have hP : va_P G vwCl (LW cs h1 Q h2 q2 F A B D MF MA MD (vA (vA MB 33 y138) 34 y139)) H := hP
      have hD : va_D (fun q : Nat => s.heap.size ≤ q) (LW cs h1 Q h2 q2 F A B D MF MA MD (vA (vA MB 33 y138) 34 y139)) := hD
      have n31_1 : (MA 31 (1 : Int32).toNatClampNeg).toInt = (MA 31 1).toInt := congrArg (fun z => (MA 31 z).toInt) (show (1 : Int32).toNatClampNeg = 1 by decide)
      have n32_1 : (MA 32 (1 : Int32).toNatClampNeg).toInt = (MA 32 1).toInt := congrArg (fun z => (MA 32 z).toInt) (show (1 : Int32).toNatClampNeg = 1 by decide)
      have nsr_1 : ((F 13 1).toInt = 0 ∧ (MA 31 1).toInt = -1) ∨ (¬ (F 13 1).toInt = 0 ∧ (MA 31 1).toInt = (F 13 3).toInt ∧ 0 ≤ (F 13 3).toInt ∧ (MA 32 1).toInt = (F 13 2).toInt) := hR.2.2.2.2.1
      refine lv_pop hx hb dL_law_2152 rfl ?_
      refine lv_goto (tgt := 2156) hx hb dL_law_2153 (by decide) ?_
      exact kk F A B D MF MA MD (vA (vA MB 33 y138) 34 y139) H locs ls ⟨hX.1, hX.2.1, hX.2.2.1, hX.2.2.2.1, hX.2.2.2.2.1, hX.2.2.2.2.2.1, hX.2.2.2.2.2.2.1, hX.2.2.2.2.2.2.2.1, hX.2.2.2.2.2.2.2.2.1, hX.2.2.2.2.2.2.2.2.2.1, hX.2.2.2.2.2.2.2.2.2.2.1, hX.2.2.2.2.2.2.2.2.2.2.2.1, hX.2.2.2.2.2.2.2.2.2.2.2.2.1, hX.2.2.2.2.2.2.2.2.2.2.2.2.2.1, hX.2.2.2.2.2.2.2.2.2.2.2.2.2.2.1, hX.2.2.2.2.2.2.2.2.2.2.2.2.2.2.2.1, hX.2.2.2.2.2.2.2.2.2.2.2.2.2.2.2.2.1, hX.2.2.2.2.2.2.2.2.2.2.2.2.2.2.2.2.2.1, hX.2.2.2.2.2.2.2.2.2.2.2.2.2.2.2.2.2.2.1, hX.2.2.2.2.2.2.2.2.2.2.2.2.2.2.2.2.2.2.2.1, hX.2.2.2.2.2.2.2.2.2.2.2.2.2.2.2.2.2.2.2.2.1, hX.2.2.2.2.2.2.2.2.2.2.2.2.2.2.2.2.2.2.2.2.2.1, hX.2.2.2.2.2.2.2.2.2.2.2.2.2.2.2.2.2.2.2.2.2.2.1, hX.2.2.2.2.2.2.2.2.2.2.2.2.2.2.2.2.2.2.2.2.2.2.2.1, hX.2.2.2.2.2.2.2.2.2.2.2.2.2.2.2.2.2.2.2.2.2.2.2.2.1, hX.2.2.2.2.2.2.2.2.2.2.2.2.2.2.2.2.2.2.2.2.2.2.2.2.2.1, hX.2.2.2.2.2.2.2.2.2.2.2.2.2.2.2.2.2.2.2.2.2.2.2.2.2.2⟩ ⟨hM.1, hM.2.1, hM.2.2⟩ hR hP hD hS hl
    · refine behDi (wr := ((uX6 cs (Q 0 0) (fun _ => Q 0 1) (F 1) (A 1) (B 1) (D 1)) ++ ((uX9 cs (Q 0 1) (Q 2) (F 2) (A 2) (B 2) (D 2)) ++ ((uX3 cs (Q 0 2) (Q 3) (F 3) (A 3) (B 3) (D 3)) ++ ((uX8 cs (Q 0 3) (Q 4) (F 4) (A 4) (B 4) (D 4)) ++ ((uX3 cs (Q 4 0) (Q 5) (F 5) (A 5) (B 5) (D 5)) ++ ((uX5 cs (Q 0 6) (Q 6) (F 6) (A 6) (B 6) (D 6)) ++ ((uX5 cs (Q 0 7) (Q 7) (F 7) (A 7) (B 7) (D 7)) ++ ((uX0 cs (Q 0 8) (Q 8) (F 8) (A 8) (B 8) (D 8)) ++ ((uX1 cs (Q 0 9) (Q 9) (F 9) (A 9) (B 9) (D 9)) ++ ((uX4 cs (Q 0 10) (Q 10) (F 10) (A 10) (B 10) (D 10)) ++ ((uX2 cs (Q 0 11) (Q 11) (F 11) (A 11) (B 11) (D 11)) ++ ((uX7 cs (Q 0 22) (Q 14) (F 14) (A 14) (B 14) (D 14)) ++ ((uX7 cs (Q 0 23) (Q 15) (F 15) (A 15) (B 15) (D 15)) ++ ((uX8 cs (Q 0 30) (Q 16) (F 16) (A 16) (B 16) (D 16)) ++ ((uX3 cs (Q 16 0) (Q 17) (F 17) (A 17) (B 17) (D 17)) ++ ((uX8 cs (Q 0 31) (Q 18) (F 18) (A 18) (B 18) (D 18)) ++ ((uX3 cs (Q 18 0) (Q 19) (F 19) (A 19) (B 19) (D 19)) ++ ((uX8 cs (Q 0 32) (Q 20) (F 20) (A 20) (B 20) (D 20)) ++ ((uX3 cs (Q 20 0) (Q 21) (F 21) (A 21) (B 21) (D 21)) ++ ((uX5 cs (Q 8 10) (Q 22) (F 22) (A 22) (B 22) (D 22)) ++ ((uX5 cs (Q 8 11) (Q 23) (F 23) (A 23) (B 23) (D 23)) ++ ((uX5 cs (Q 8 12) (Q 24) (F 24) (A 24) (B 24) (D 24)) ++ ((uX5 cs (Q 8 13) (Q 25) (F 25) (A 25) (B 25) (D 25)) ++ ((uX5 cs (Q 8 14) (Q 26) (F 26) (A 26) (B 26) (D 26)) ++ (mS cs h2 q2 MF MA MD MB)))))))))))))))))))))))))) (runVD (As := [.int 1, .int a2, .int 0, .int a4, .int a5]) (rest := []) ⟨hx, hb, hml, hown, ht⟩ (sX10_paste_1_0 l G cs h1 (Q 0) (F 0) (A 0) (B 0) (D 0) hX.1 (Q 13) (F 13) (A 13) (B 13) (D 13) hX.2.2.2.2.2.2.2.2.2.2.2.2.2.1 (Q 12) (F 12) (A 12) (B 12) (D 12) hX.2.2.2.2.2.2.2.2.2.2.2.2.1 a2 a4 a5) okV_RL_276 ⟨(Nat.le_of_ble_eq_true rfl), (Nat.le_of_ble_eq_true rfl)⟩ hK hP hD [0, 1, 2, 50, 51, 48, 49] rfl (by decide +kernel) rfl 0 rfl rfl hl.1 rfl (Nat.le_of_ble_eq_true rfl) dL_law_2119 ⟨(Nat.le_of_ble_eq_true rfl), (Nat.le_of_ble_eq_true rfl)⟩) hP hD hS (fun _ h => h) [0, 1, 2, 50, 51, 48, 49] [3, 4, 5, 6, 7, 8, 9, 10, 11, 12, 13, 14, 15, 16, 17, 18, 19, 20, 21, 22, 23, 24, 25, 26, 27, 28, 29, 30, 31, 32, 33, 34, 35, 36, 37, 38, 39, 40, 41, 42, 43, 44, 45, 46, 47, 52, 53, 54, 55, 56, 57, 58, 59, 60, 61, 62, 63, 64, 65, 66, 67, 68, 69, 70, 71, 72, 73, 74, 75, 76, 77, 78, 79, 80, 81, 82, 83, 84, 85, 86, 87, 88, 89, 90, 91, 92, 93, 94, 95, 96, 97, 98, 99, 100, 101, 102, 103, 104, 105, 106, 107, 108, 109, 110, 111, 112, 113, 114, 115, 116, 117, 118, 119, 120] rfl rfl (by decide +kernel) (by decide +kernel) (fun r9 u H locs hu hP hD hS => ?_)
      obtain ⟨y142, rfl⟩ : ∃ z, z = u := ⟨_, rfl⟩
      obtain ⟨r141, rfl⟩ : ∃ z, z = r9 := ⟨_, rfl⟩
      have hr141 := hu
      have kk143 : (1 : Int32).toInt = 1 := by decide
      have kk144 : (0 : Int32).toInt = 0 := by decide
      have hr141 : (((F 13 1).toInt = 0 ∨ (F 12 1).toInt = 0) ∧ r141.toInt = -6) ∨ (¬ (F 13 1).toInt = 0 ∧ ¬ (F 12 1).toInt = 0 ∧ ¬ (F 13 2).toInt = (F 12 2).toInt ∧ r141.toInt = -8) ∨ (¬ (F 13 1).toInt = 0 ∧ ¬ (F 12 1).toInt = 0 ∧ (F 13 2).toInt = (F 12 2).toInt ∧ (a2.toInt < 0 ∨ a4.toInt < 0 ∨ a5.toInt < 0 ∨ (F 13 3).toInt < a2.toInt + a5.toInt ∨ (F 12 3).toInt < a4.toInt + a5.toInt) ∧ r141.toInt = -7) ∨ (¬ (F 13 1).toInt = 0 ∧ ¬ (F 12 1).toInt = 0 ∧ (F 13 2).toInt = (F 12 2).toInt ∧ ¬ (a2.toInt < 0 ∨ a4.toInt < 0 ∨ a5.toInt < 0 ∨ (F 13 3).toInt < a2.toInt + a5.toInt ∨ (F 12 3).toInt < a4.toInt + a5.toInt) ∧ r141.toInt = 0) := hr141
      have hP : va_P G vwCl (LW cs h1 Q h2 q2 F A (vA B 12 (vA (B 12) 0 y142)) D MF MA MD MB) H := hP.sub [114, 115, 116, 0, 1, 2, 3, 4, 5, 6, 7, 8, 9, 10, 11, 12, 13, 14, 15, 16, 17, 18, 19, 20, 21, 22, 23, 24, 25, 26, 27, 28, 29, 30, 31, 32, 33, 34, 35, 36, 37, 38, 39, 40, 41, 42, 43, 44, 119, 120, 117, 118, 45, 46, 47, 48, 49, 50, 51, 52, 53, 54, 55, 56, 57, 58, 59, 60, 61, 62, 63, 64, 65, 66, 67, 68, 69, 70, 71, 72, 73, 74, 75, 76, 77, 78, 79, 80, 81, 82, 83, 84, 85, 86, 87, 88, 89, 90, 91, 92, 93, 94, 95, 96, 97, 98, 99, 100, 101, 102, 103, 104, 105, 106, 107, 108, 109, 110, 111, 112, 113] rfl
      have hD : va_D (fun q : Nat => s.heap.size ≤ q) (LW cs h1 Q h2 q2 F A (vA B 12 (vA (B 12) 0 y142)) D MF MA MD MB) := hD.sub [114, 115, 116, 0, 1, 2, 3, 4, 5, 6, 7, 8, 9, 10, 11, 12, 13, 14, 15, 16, 17, 18, 19, 20, 21, 22, 23, 24, 25, 26, 27, 28, 29, 30, 31, 32, 33, 34, 35, 36, 37, 38, 39, 40, 41, 42, 43, 44, 119, 120, 117, 118, 45, 46, 47, 48, 49, 50, 51, 52, 53, 54, 55, 56, 57, 58, 59, 60, 61, 62, 63, 64, 65, 66, 67, 68, 69, 70, 71, 72, 73, 74, 75, 76, 77, 78, 79, 80, 81, 82, 83, 84, 85, 86, 87, 88, 89, 90, 91, 92, 93, 94, 95, 96, 97, 98, 99, 100, 101, 102, 103, 104, 105, 106, 107, 108, 109, 110, 111, 112, 113] (by decide +kernel) rfl
      refine lv_pop hx hb dL_law_2122 rfl ?_
      refine lv_aload_n hx hb dL_law_2123 rfl (lv_at hl 1 rfl) ?_
      refine lv_aload_n hx hb dL_law_2124 rfl (lv_at hl 3 rfl) ?_
      refine lv_iload_n hx hb dL_law_2125 rfl (lv_at hl 0 rfl) ?_
      refine lv_iconst (v := 1) hx hb dL_law_2126 (by decide) ?_
      refine lv_iadd hx hb dL_law_2127 ?_
      refine va_sld hx hb hXs hbl hbA hS (inK t1 (by omega) (by omega)) dL_law_2128 ?_
      refine W.eq (g2 := F0 m 2129 ls [.int 1, .ref h2]) (by rw [← ea1]) ?_
      refine lv_aload_n hx hb dL_law_2129 rfl (lv_at hl 3 rfl) ?_
      refine lv_iload_n hx hb dL_law_2130 rfl (lv_at hl 0 rfl) ?_
      refine lv_iconst (v := 2) hx hb dL_law_2131 (by decide) ?_
      refine lv_iadd hx hb dL_law_2132 ?_
      refine va_sld hx hb hXs hbl hbA hS (inK t2 (by omega) (by omega)) dL_law_2133 ?_
      refine W.eq (g2 := F0 m 2134 ls [.int a2, .int 1, .ref h2]) (by rw [← ea2]) ?_
      refine lv_aload_n hx hb dL_law_2134 rfl (lv_at hl 3 rfl) ?_
      refine lv_iload_n hx hb dL_law_2135 rfl (lv_at hl 0 rfl) ?_
      refine lv_iconst (v := 3) hx hb dL_law_2136 (by decide) ?_
      refine lv_iadd hx hb dL_law_2137 ?_
      refine va_sld hx hb hXs hbl hbA hS (inK t3 (by omega) (by omega)) dL_law_2138 ?_
      refine W.eq (g2 := F0 m 2139 ls [.int 0, .int a2, .int 1, .ref h2]) (by rw [← ea3]) ?_
      refine lv_aload_n hx hb dL_law_2139 rfl (lv_at hl 3 rfl) ?_
      refine lv_iload_n hx hb dL_law_2140 rfl (lv_at hl 0 rfl) ?_
      refine lv_iconst (v := 4) hx hb dL_law_2141 (by decide) ?_
      refine lv_iadd hx hb dL_law_2142 ?_
      refine va_sld hx hb hXs hbl hbA hS (inK t4 (by omega) (by omega)) dL_law_2143 ?_
      refine W.eq (g2 := F0 m 2144 ls [.int a4, .int 0, .int a2, .int 1, .ref h2]) (by rw [← ea4]) ?_
      refine lv_aload_n hx hb dL_law_2144 rfl (lv_at hl 3 rfl) ?_
      refine lv_iload_n hx hb dL_law_2145 rfl (lv_at hl 0 rfl) ?_
      refine lv_iconst (v := 5) hx hb dL_law_2146 (by decide) ?_
      refine lv_iadd hx hb dL_law_2147 ?_
      refine va_sld hx hb hXs hbl hbA hS (inK t5 (by omega) (by omega)) dL_law_2148 ?_
      refine W.eq (g2 := F0 m 2149 ls [.int a5, .int a4, .int 0, .int a2, .int 1, .ref h2]) (by rw [← ea5]) ?_
      refine behDi (wr := (XLW cs h1 Q F A (vA B 12 (vA (B 12) 0 y142)) D)) (runVD (As := [.int 1, .int a2, .int 0, .int a4, .int a5]) (rest := []) ⟨hx, hb, hml, hown, ht⟩ (sX11_paste l G cs h2 q2 MF MA MD MB hM.1 1 a2 0 a4 a5) okV_RL_279 ⟨(Nat.le_of_ble_eq_true rfl), (Nat.le_of_ble_eq_true rfl)⟩ hK hP hD [101, 102, 103, 104, 105, 106, 107, 108, 109, 110, 111, 112, 113, 114, 115, 116, 117, 118, 119, 120] rfl (by decide +kernel) rfl 101 rfl rfl hl.1 rfl (Nat.le_of_ble_eq_true rfl) dL_law_2149 ⟨(Nat.le_of_ble_eq_true rfl), (Nat.le_of_ble_eq_true rfl)⟩) hP hD hS (fun _ h => h) [101, 102, 103, 104, 105, 106, 107, 108, 109, 110, 111, 112, 113, 114, 115, 116, 117, 118, 119, 120] [0, 1, 2, 3, 4, 5, 6, 7, 8, 9, 10, 11, 12, 13, 14, 15, 16, 17, 18, 19, 20, 21, 22, 23, 24, 25, 26, 27, 28, 29, 30, 31, 32, 33, 34, 35, 36, 37, 38, 39, 40, 41, 42, 43, 44, 45, 46, 47, 48, 49, 50, 51, 52, 53, 54, 55, 56, 57, 58, 59, 60, 61, 62, 63, 64, 65, 66, 67, 68, 69, 70, 71, 72, 73, 74, 75, 76, 77, 78, 79, 80, 81, 82, 83, 84, 85, 86, 87, 88, 89, 90, 91, 92, 93, 94, 95, 96, 97, 98, 99, 100] rfl rfl (by decide +kernel) (by decide +kernel) (fun r9 u H locs hu hP hD hS => ?_)
      obtain ⟨y146, y147⟩ := u
      obtain ⟨r145, rfl⟩ : ∃ z, z = r9 := ⟨_, rfl⟩
      have hr145 := hu
      have kk148 : (1 : Int32).toInt = 1 := by decide
      have kk149 : (0 : Int32).toInt = 0 := by decide
      have hr145 : (r145.toInt = -2 ∧ ((1 : Int32).toInt < 0 ∨ 3 < (1 : Int32).toInt ∨ (0 : Int32).toInt < 0 ∨ 3 < (0 : Int32).toInt)) ∨ ((0 ≤ (1 : Int32).toInt ∧ (1 : Int32).toInt ≤ 3) ∧ (0 ≤ (0 : Int32).toInt ∧ (0 : Int32).toInt ≤ 3) ∧ (((MA 31) (1 : Int32).toNatClampNeg).toInt = -1 ∨ ((MA 31) (0 : Int32).toNatClampNeg).toInt = -1) ∧ r145.toInt = -6) ∨ ((0 ≤ (1 : Int32).toInt ∧ (1 : Int32).toInt ≤ 3) ∧ (0 ≤ (0 : Int32).toInt ∧ (0 : Int32).toInt ≤ 3) ∧ ¬ ((MA 31) (1 : Int32).toNatClampNeg).toInt = -1 ∧ ¬ ((MA 31) (0 : Int32).toNatClampNeg).toInt = -1 ∧ ¬ ((MA 32) (1 : Int32).toNatClampNeg).toInt = ((MA 32) (0 : Int32).toNatClampNeg).toInt ∧ r145.toInt = -8) ∨ ((0 ≤ (1 : Int32).toInt ∧ (1 : Int32).toInt ≤ 3) ∧ (0 ≤ (0 : Int32).toInt ∧ (0 : Int32).toInt ≤ 3) ∧ ¬ ((MA 31) (1 : Int32).toNatClampNeg).toInt = -1 ∧ ¬ ((MA 31) (0 : Int32).toNatClampNeg).toInt = -1 ∧ ((MA 32) (1 : Int32).toNatClampNeg).toInt = ((MA 32) (0 : Int32).toNatClampNeg).toInt ∧ (a2.toInt < 0 ∨ a4.toInt < 0 ∨ a5.toInt < 0 ∨ ((MA 31) (1 : Int32).toNatClampNeg).toInt < a2.toInt + a5.toInt ∨ ((MA 31) (0 : Int32).toNatClampNeg).toInt < a4.toInt + a5.toInt) ∧ r145.toInt = -7) ∨ ((0 ≤ (1 : Int32).toInt ∧ (1 : Int32).toInt ≤ 3) ∧ (0 ≤ (0 : Int32).toInt ∧ (0 : Int32).toInt ≤ 3) ∧ ¬ ((MA 31) (1 : Int32).toNatClampNeg).toInt = -1 ∧ ¬ ((MA 31) (0 : Int32).toNatClampNeg).toInt = -1 ∧ ((MA 32) (1 : Int32).toNatClampNeg).toInt = ((MA 32) (0 : Int32).toNatClampNeg).toInt ∧ ¬ (a2.toInt < 0 ∨ a4.toInt < 0 ∨ a5.toInt < 0 ∨ ((MA 31) (1 : Int32).toNatClampNeg).toInt < a2.toInt + a5.toInt ∨ ((MA 31) (0 : Int32).toNatClampNeg).toInt < a4.toInt + a5.toInt) ∧ r145.toInt = 0) := hr145
      have hP : va_P G vwCl (LW cs h1 Q h2 q2 F A (vA B 12 (vA (B 12) 0 y142)) D MF MA MD (vA (vA MB 33 y146) 34 y147)) H := hP
      have hD : va_D (fun q : Nat => s.heap.size ≤ q) (LW cs h1 Q h2 q2 F A (vA B 12 (vA (B 12) 0 y142)) D MF MA MD (vA (vA MB 33 y146) 34 y147)) := hD
      have n31_0 : (MA 31 (0 : Int32).toNatClampNeg).toInt = (MA 31 0).toInt := congrArg (fun z => (MA 31 z).toInt) (show (0 : Int32).toNatClampNeg = 0 by decide)
      have n32_0 : (MA 32 (0 : Int32).toNatClampNeg).toInt = (MA 32 0).toInt := congrArg (fun z => (MA 32 z).toInt) (show (0 : Int32).toNatClampNeg = 0 by decide)
      have nsr_0 : ((F 12 1).toInt = 0 ∧ (MA 31 0).toInt = -1) ∨ (¬ (F 12 1).toInt = 0 ∧ (MA 31 0).toInt = (F 12 3).toInt ∧ 0 ≤ (F 12 3).toInt ∧ (MA 32 0).toInt = (F 12 2).toInt) := hR.2.2.2.1
      have n31_1 : (MA 31 (1 : Int32).toNatClampNeg).toInt = (MA 31 1).toInt := congrArg (fun z => (MA 31 z).toInt) (show (1 : Int32).toNatClampNeg = 1 by decide)
      have n32_1 : (MA 32 (1 : Int32).toNatClampNeg).toInt = (MA 32 1).toInt := congrArg (fun z => (MA 32 z).toInt) (show (1 : Int32).toNatClampNeg = 1 by decide)
      have nsr_1 : ((F 13 1).toInt = 0 ∧ (MA 31 1).toInt = -1) ∨ (¬ (F 13 1).toInt = 0 ∧ (MA 31 1).toInt = (F 13 3).toInt ∧ 0 ≤ (F 13 3).toInt ∧ (MA 32 1).toInt = (F 13 2).toInt) := hR.2.2.2.2.1
      refine lv_pop hx hb dL_law_2152 rfl ?_
      refine lv_goto (tgt := 2156) hx hb dL_law_2153 (by decide) ?_
      exact kk F A (vA B 12 (vA (B 12) 0 y142)) D MF MA MD (vA (vA MB 33 y146) 34 y147) H locs ls ⟨hX.1, hX.2.1, hX.2.2.1, hX.2.2.2.1, hX.2.2.2.2.1, hX.2.2.2.2.2.1, hX.2.2.2.2.2.2.1, hX.2.2.2.2.2.2.2.1, hX.2.2.2.2.2.2.2.2.1, hX.2.2.2.2.2.2.2.2.2.1, hX.2.2.2.2.2.2.2.2.2.2.1, hX.2.2.2.2.2.2.2.2.2.2.2.1, hX.2.2.2.2.2.2.2.2.2.2.2.2.1, hX.2.2.2.2.2.2.2.2.2.2.2.2.2.1, hX.2.2.2.2.2.2.2.2.2.2.2.2.2.2.1, hX.2.2.2.2.2.2.2.2.2.2.2.2.2.2.2.1, hX.2.2.2.2.2.2.2.2.2.2.2.2.2.2.2.2.1, hX.2.2.2.2.2.2.2.2.2.2.2.2.2.2.2.2.2.1, hX.2.2.2.2.2.2.2.2.2.2.2.2.2.2.2.2.2.2.1, hX.2.2.2.2.2.2.2.2.2.2.2.2.2.2.2.2.2.2.2.1, hX.2.2.2.2.2.2.2.2.2.2.2.2.2.2.2.2.2.2.2.2.1, hX.2.2.2.2.2.2.2.2.2.2.2.2.2.2.2.2.2.2.2.2.2.1, hX.2.2.2.2.2.2.2.2.2.2.2.2.2.2.2.2.2.2.2.2.2.2.1, hX.2.2.2.2.2.2.2.2.2.2.2.2.2.2.2.2.2.2.2.2.2.2.2.1, hX.2.2.2.2.2.2.2.2.2.2.2.2.2.2.2.2.2.2.2.2.2.2.2.2.1, hX.2.2.2.2.2.2.2.2.2.2.2.2.2.2.2.2.2.2.2.2.2.2.2.2.2.1, hX.2.2.2.2.2.2.2.2.2.2.2.2.2.2.2.2.2.2.2.2.2.2.2.2.2.2⟩ ⟨hM.1, hM.2.1, hM.2.2⟩ hR hP hD hS hl
    · refine behDi (wr := ((uX6 cs (Q 0 0) (fun _ => Q 0 1) (F 1) (A 1) (B 1) (D 1)) ++ ((uX9 cs (Q 0 1) (Q 2) (F 2) (A 2) (B 2) (D 2)) ++ ((uX3 cs (Q 0 2) (Q 3) (F 3) (A 3) (B 3) (D 3)) ++ ((uX8 cs (Q 0 3) (Q 4) (F 4) (A 4) (B 4) (D 4)) ++ ((uX3 cs (Q 4 0) (Q 5) (F 5) (A 5) (B 5) (D 5)) ++ ((uX5 cs (Q 0 6) (Q 6) (F 6) (A 6) (B 6) (D 6)) ++ ((uX5 cs (Q 0 7) (Q 7) (F 7) (A 7) (B 7) (D 7)) ++ ((uX0 cs (Q 0 8) (Q 8) (F 8) (A 8) (B 8) (D 8)) ++ ((uX1 cs (Q 0 9) (Q 9) (F 9) (A 9) (B 9) (D 9)) ++ ((uX4 cs (Q 0 10) (Q 10) (F 10) (A 10) (B 10) (D 10)) ++ ((uX2 cs (Q 0 11) (Q 11) (F 11) (A 11) (B 11) (D 11)) ++ ((uX7 cs (Q 0 20) (Q 12) (F 12) (A 12) (B 12) (D 12)) ++ ((uX7 cs (Q 0 22) (Q 14) (F 14) (A 14) (B 14) (D 14)) ++ ((uX7 cs (Q 0 23) (Q 15) (F 15) (A 15) (B 15) (D 15)) ++ ((uX8 cs (Q 0 30) (Q 16) (F 16) (A 16) (B 16) (D 16)) ++ ((uX3 cs (Q 16 0) (Q 17) (F 17) (A 17) (B 17) (D 17)) ++ ((uX8 cs (Q 0 31) (Q 18) (F 18) (A 18) (B 18) (D 18)) ++ ((uX3 cs (Q 18 0) (Q 19) (F 19) (A 19) (B 19) (D 19)) ++ ((uX8 cs (Q 0 32) (Q 20) (F 20) (A 20) (B 20) (D 20)) ++ ((uX3 cs (Q 20 0) (Q 21) (F 21) (A 21) (B 21) (D 21)) ++ ((uX5 cs (Q 8 10) (Q 22) (F 22) (A 22) (B 22) (D 22)) ++ ((uX5 cs (Q 8 11) (Q 23) (F 23) (A 23) (B 23) (D 23)) ++ ((uX5 cs (Q 8 12) (Q 24) (F 24) (A 24) (B 24) (D 24)) ++ ((uX5 cs (Q 8 13) (Q 25) (F 25) (A 25) (B 25) (D 25)) ++ ((uX5 cs (Q 8 14) (Q 26) (F 26) (A 26) (B 26) (D 26)) ++ (mS cs h2 q2 MF MA MD MB))))))))))))))))))))))))))) (runVD (As := [.int 1, .int a2, .int 1, .int a4, .int a5]) (rest := []) ⟨hx, hb, hml, hown, ht⟩ (sX10_paste_1_1 l G cs h1 (Q 0) (F 0) (A 0) (B 0) (D 0) hX.1 (Q 13) (F 13) (A 13) (B 13) (D 13) hX.2.2.2.2.2.2.2.2.2.2.2.2.2.1 a2 a4 a5) okV_RL_276 ⟨(Nat.le_of_ble_eq_true rfl), (Nat.le_of_ble_eq_true rfl)⟩ hK hP hD [0, 1, 2, 50, 51] rfl (by decide +kernel) rfl 0 rfl rfl hl.1 rfl (Nat.le_of_ble_eq_true rfl) dL_law_2119 ⟨(Nat.le_of_ble_eq_true rfl), (Nat.le_of_ble_eq_true rfl)⟩) hP hD hS (fun _ h => h) [0, 1, 2, 50, 51] [3, 4, 5, 6, 7, 8, 9, 10, 11, 12, 13, 14, 15, 16, 17, 18, 19, 20, 21, 22, 23, 24, 25, 26, 27, 28, 29, 30, 31, 32, 33, 34, 35, 36, 37, 38, 39, 40, 41, 42, 43, 44, 45, 46, 47, 48, 49, 52, 53, 54, 55, 56, 57, 58, 59, 60, 61, 62, 63, 64, 65, 66, 67, 68, 69, 70, 71, 72, 73, 74, 75, 76, 77, 78, 79, 80, 81, 82, 83, 84, 85, 86, 87, 88, 89, 90, 91, 92, 93, 94, 95, 96, 97, 98, 99, 100, 101, 102, 103, 104, 105, 106, 107, 108, 109, 110, 111, 112, 113, 114, 115, 116, 117, 118, 119, 120] rfl rfl (by decide +kernel) (by decide +kernel) (fun r9 u H locs hu hP hD hS => ?_)
      obtain ⟨y151, rfl⟩ : ∃ z, z = u := ⟨_, rfl⟩
      obtain ⟨r150, rfl⟩ : ∃ z, z = r9 := ⟨_, rfl⟩
      have hr150 := hu
      have kk152 : (1 : Int32).toInt = 1 := by decide
      have kk153 : (1 : Int32).toInt = 1 := by decide
      have hr150 : (((F 13 1).toInt = 0 ∨ (F 13 1).toInt = 0) ∧ r150.toInt = -6) ∨ (¬ (F 13 1).toInt = 0 ∧ ¬ (F 13 1).toInt = 0 ∧ ¬ (F 13 2).toInt = (F 13 2).toInt ∧ r150.toInt = -8) ∨ (¬ (F 13 1).toInt = 0 ∧ ¬ (F 13 1).toInt = 0 ∧ (F 13 2).toInt = (F 13 2).toInt ∧ (a2.toInt < 0 ∨ a4.toInt < 0 ∨ a5.toInt < 0 ∨ (F 13 3).toInt < a2.toInt + a5.toInt ∨ (F 13 3).toInt < a4.toInt + a5.toInt) ∧ r150.toInt = -7) ∨ (¬ (F 13 1).toInt = 0 ∧ ¬ (F 13 1).toInt = 0 ∧ (F 13 2).toInt = (F 13 2).toInt ∧ ¬ (a2.toInt < 0 ∨ a4.toInt < 0 ∨ a5.toInt < 0 ∨ (F 13 3).toInt < a2.toInt + a5.toInt ∨ (F 13 3).toInt < a4.toInt + a5.toInt) ∧ r150.toInt = 0) := hr150
      have hP : va_P G vwCl (LW cs h1 Q h2 q2 F A (vA B 13 (vA (B 13) 0 y151)) D MF MA MD MB) H := hP.sub [116, 117, 118, 0, 1, 2, 3, 4, 5, 6, 7, 8, 9, 10, 11, 12, 13, 14, 15, 16, 17, 18, 19, 20, 21, 22, 23, 24, 25, 26, 27, 28, 29, 30, 31, 32, 33, 34, 35, 36, 37, 38, 39, 40, 41, 42, 43, 44, 45, 46, 119, 120, 47, 48, 49, 50, 51, 52, 53, 54, 55, 56, 57, 58, 59, 60, 61, 62, 63, 64, 65, 66, 67, 68, 69, 70, 71, 72, 73, 74, 75, 76, 77, 78, 79, 80, 81, 82, 83, 84, 85, 86, 87, 88, 89, 90, 91, 92, 93, 94, 95, 96, 97, 98, 99, 100, 101, 102, 103, 104, 105, 106, 107, 108, 109, 110, 111, 112, 113, 114, 115] rfl
      have hD : va_D (fun q : Nat => s.heap.size ≤ q) (LW cs h1 Q h2 q2 F A (vA B 13 (vA (B 13) 0 y151)) D MF MA MD MB) := hD.sub [116, 117, 118, 0, 1, 2, 3, 4, 5, 6, 7, 8, 9, 10, 11, 12, 13, 14, 15, 16, 17, 18, 19, 20, 21, 22, 23, 24, 25, 26, 27, 28, 29, 30, 31, 32, 33, 34, 35, 36, 37, 38, 39, 40, 41, 42, 43, 44, 45, 46, 119, 120, 47, 48, 49, 50, 51, 52, 53, 54, 55, 56, 57, 58, 59, 60, 61, 62, 63, 64, 65, 66, 67, 68, 69, 70, 71, 72, 73, 74, 75, 76, 77, 78, 79, 80, 81, 82, 83, 84, 85, 86, 87, 88, 89, 90, 91, 92, 93, 94, 95, 96, 97, 98, 99, 100, 101, 102, 103, 104, 105, 106, 107, 108, 109, 110, 111, 112, 113, 114, 115] (by decide +kernel) rfl
      refine lv_pop hx hb dL_law_2122 rfl ?_
      refine lv_aload_n hx hb dL_law_2123 rfl (lv_at hl 1 rfl) ?_
      refine lv_aload_n hx hb dL_law_2124 rfl (lv_at hl 3 rfl) ?_
      refine lv_iload_n hx hb dL_law_2125 rfl (lv_at hl 0 rfl) ?_
      refine lv_iconst (v := 1) hx hb dL_law_2126 (by decide) ?_
      refine lv_iadd hx hb dL_law_2127 ?_
      refine va_sld hx hb hXs hbl hbA hS (inK t1 (by omega) (by omega)) dL_law_2128 ?_
      refine W.eq (g2 := F0 m 2129 ls [.int 1, .ref h2]) (by rw [← ea1]) ?_
      refine lv_aload_n hx hb dL_law_2129 rfl (lv_at hl 3 rfl) ?_
      refine lv_iload_n hx hb dL_law_2130 rfl (lv_at hl 0 rfl) ?_
      refine lv_iconst (v := 2) hx hb dL_law_2131 (by decide) ?_
      refine lv_iadd hx hb dL_law_2132 ?_
      refine va_sld hx hb hXs hbl hbA hS (inK t2 (by omega) (by omega)) dL_law_2133 ?_
      refine W.eq (g2 := F0 m 2134 ls [.int a2, .int 1, .ref h2]) (by rw [← ea2]) ?_
      refine lv_aload_n hx hb dL_law_2134 rfl (lv_at hl 3 rfl) ?_
      refine lv_iload_n hx hb dL_law_2135 rfl (lv_at hl 0 rfl) ?_
      refine lv_iconst (v := 3) hx hb dL_law_2136 (by decide) ?_
      refine lv_iadd hx hb dL_law_2137 ?_
      refine va_sld hx hb hXs hbl hbA hS (inK t3 (by omega) (by omega)) dL_law_2138 ?_
      refine W.eq (g2 := F0 m 2139 ls [.int 1, .int a2, .int 1, .ref h2]) (by rw [← ea3]) ?_
      refine lv_aload_n hx hb dL_law_2139 rfl (lv_at hl 3 rfl) ?_
      refine lv_iload_n hx hb dL_law_2140 rfl (lv_at hl 0 rfl) ?_
      refine lv_iconst (v := 4) hx hb dL_law_2141 (by decide) ?_
      refine lv_iadd hx hb dL_law_2142 ?_
      refine va_sld hx hb hXs hbl hbA hS (inK t4 (by omega) (by omega)) dL_law_2143 ?_
      refine W.eq (g2 := F0 m 2144 ls [.int a4, .int 1, .int a2, .int 1, .ref h2]) (by rw [← ea4]) ?_
      refine lv_aload_n hx hb dL_law_2144 rfl (lv_at hl 3 rfl) ?_
      refine lv_iload_n hx hb dL_law_2145 rfl (lv_at hl 0 rfl) ?_
      refine lv_iconst (v := 5) hx hb dL_law_2146 (by decide) ?_
      refine lv_iadd hx hb dL_law_2147 ?_
      refine va_sld hx hb hXs hbl hbA hS (inK t5 (by omega) (by omega)) dL_law_2148 ?_
      refine W.eq (g2 := F0 m 2149 ls [.int a5, .int a4, .int 1, .int a2, .int 1, .ref h2]) (by rw [← ea5]) ?_
      refine behDi (wr := (XLW cs h1 Q F A (vA B 13 (vA (B 13) 0 y151)) D)) (runVD (As := [.int 1, .int a2, .int 1, .int a4, .int a5]) (rest := []) ⟨hx, hb, hml, hown, ht⟩ (sX11_paste l G cs h2 q2 MF MA MD MB hM.1 1 a2 1 a4 a5) okV_RL_279 ⟨(Nat.le_of_ble_eq_true rfl), (Nat.le_of_ble_eq_true rfl)⟩ hK hP hD [101, 102, 103, 104, 105, 106, 107, 108, 109, 110, 111, 112, 113, 114, 115, 116, 117, 118, 119, 120] rfl (by decide +kernel) rfl 101 rfl rfl hl.1 rfl (Nat.le_of_ble_eq_true rfl) dL_law_2149 ⟨(Nat.le_of_ble_eq_true rfl), (Nat.le_of_ble_eq_true rfl)⟩) hP hD hS (fun _ h => h) [101, 102, 103, 104, 105, 106, 107, 108, 109, 110, 111, 112, 113, 114, 115, 116, 117, 118, 119, 120] [0, 1, 2, 3, 4, 5, 6, 7, 8, 9, 10, 11, 12, 13, 14, 15, 16, 17, 18, 19, 20, 21, 22, 23, 24, 25, 26, 27, 28, 29, 30, 31, 32, 33, 34, 35, 36, 37, 38, 39, 40, 41, 42, 43, 44, 45, 46, 47, 48, 49, 50, 51, 52, 53, 54, 55, 56, 57, 58, 59, 60, 61, 62, 63, 64, 65, 66, 67, 68, 69, 70, 71, 72, 73, 74, 75, 76, 77, 78, 79, 80, 81, 82, 83, 84, 85, 86, 87, 88, 89, 90, 91, 92, 93, 94, 95, 96, 97, 98, 99, 100] rfl rfl (by decide +kernel) (by decide +kernel) (fun r9 u H locs hu hP hD hS => ?_)
      obtain ⟨y155, y156⟩ := u
      obtain ⟨r154, rfl⟩ : ∃ z, z = r9 := ⟨_, rfl⟩
      have hr154 := hu
      have kk157 : (1 : Int32).toInt = 1 := by decide
      have kk158 : (1 : Int32).toInt = 1 := by decide
      have hr154 : (r154.toInt = -2 ∧ ((1 : Int32).toInt < 0 ∨ 3 < (1 : Int32).toInt ∨ (1 : Int32).toInt < 0 ∨ 3 < (1 : Int32).toInt)) ∨ ((0 ≤ (1 : Int32).toInt ∧ (1 : Int32).toInt ≤ 3) ∧ (0 ≤ (1 : Int32).toInt ∧ (1 : Int32).toInt ≤ 3) ∧ (((MA 31) (1 : Int32).toNatClampNeg).toInt = -1 ∨ ((MA 31) (1 : Int32).toNatClampNeg).toInt = -1) ∧ r154.toInt = -6) ∨ ((0 ≤ (1 : Int32).toInt ∧ (1 : Int32).toInt ≤ 3) ∧ (0 ≤ (1 : Int32).toInt ∧ (1 : Int32).toInt ≤ 3) ∧ ¬ ((MA 31) (1 : Int32).toNatClampNeg).toInt = -1 ∧ ¬ ((MA 31) (1 : Int32).toNatClampNeg).toInt = -1 ∧ ¬ ((MA 32) (1 : Int32).toNatClampNeg).toInt = ((MA 32) (1 : Int32).toNatClampNeg).toInt ∧ r154.toInt = -8) ∨ ((0 ≤ (1 : Int32).toInt ∧ (1 : Int32).toInt ≤ 3) ∧ (0 ≤ (1 : Int32).toInt ∧ (1 : Int32).toInt ≤ 3) ∧ ¬ ((MA 31) (1 : Int32).toNatClampNeg).toInt = -1 ∧ ¬ ((MA 31) (1 : Int32).toNatClampNeg).toInt = -1 ∧ ((MA 32) (1 : Int32).toNatClampNeg).toInt = ((MA 32) (1 : Int32).toNatClampNeg).toInt ∧ (a2.toInt < 0 ∨ a4.toInt < 0 ∨ a5.toInt < 0 ∨ ((MA 31) (1 : Int32).toNatClampNeg).toInt < a2.toInt + a5.toInt ∨ ((MA 31) (1 : Int32).toNatClampNeg).toInt < a4.toInt + a5.toInt) ∧ r154.toInt = -7) ∨ ((0 ≤ (1 : Int32).toInt ∧ (1 : Int32).toInt ≤ 3) ∧ (0 ≤ (1 : Int32).toInt ∧ (1 : Int32).toInt ≤ 3) ∧ ¬ ((MA 31) (1 : Int32).toNatClampNeg).toInt = -1 ∧ ¬ ((MA 31) (1 : Int32).toNatClampNeg).toInt = -1 ∧ ((MA 32) (1 : Int32).toNatClampNeg).toInt = ((MA 32) (1 : Int32).toNatClampNeg).toInt ∧ ¬ (a2.toInt < 0 ∨ a4.toInt < 0 ∨ a5.toInt < 0 ∨ ((MA 31) (1 : Int32).toNatClampNeg).toInt < a2.toInt + a5.toInt ∨ ((MA 31) (1 : Int32).toNatClampNeg).toInt < a4.toInt + a5.toInt) ∧ r154.toInt = 0) := hr154
      have hP : va_P G vwCl (LW cs h1 Q h2 q2 F A (vA B 13 (vA (B 13) 0 y151)) D MF MA MD (vA (vA MB 33 y155) 34 y156)) H := hP
      have hD : va_D (fun q : Nat => s.heap.size ≤ q) (LW cs h1 Q h2 q2 F A (vA B 13 (vA (B 13) 0 y151)) D MF MA MD (vA (vA MB 33 y155) 34 y156)) := hD
      have n31_1 : (MA 31 (1 : Int32).toNatClampNeg).toInt = (MA 31 1).toInt := congrArg (fun z => (MA 31 z).toInt) (show (1 : Int32).toNatClampNeg = 1 by decide)
      have n32_1 : (MA 32 (1 : Int32).toNatClampNeg).toInt = (MA 32 1).toInt := congrArg (fun z => (MA 32 z).toInt) (show (1 : Int32).toNatClampNeg = 1 by decide)
      have nsr_1 : ((F 13 1).toInt = 0 ∧ (MA 31 1).toInt = -1) ∨ (¬ (F 13 1).toInt = 0 ∧ (MA 31 1).toInt = (F 13 3).toInt ∧ 0 ≤ (F 13 3).toInt ∧ (MA 32 1).toInt = (F 13 2).toInt) := hR.2.2.2.2.1
      refine lv_pop hx hb dL_law_2152 rfl ?_
      refine lv_goto (tgt := 2156) hx hb dL_law_2153 (by decide) ?_
      exact kk F A (vA B 13 (vA (B 13) 0 y151)) D MF MA MD (vA (vA MB 33 y155) 34 y156) H locs ls ⟨hX.1, hX.2.1, hX.2.2.1, hX.2.2.2.1, hX.2.2.2.2.1, hX.2.2.2.2.2.1, hX.2.2.2.2.2.2.1, hX.2.2.2.2.2.2.2.1, hX.2.2.2.2.2.2.2.2.1, hX.2.2.2.2.2.2.2.2.2.1, hX.2.2.2.2.2.2.2.2.2.2.1, hX.2.2.2.2.2.2.2.2.2.2.2.1, hX.2.2.2.2.2.2.2.2.2.2.2.2.1, hX.2.2.2.2.2.2.2.2.2.2.2.2.2.1, hX.2.2.2.2.2.2.2.2.2.2.2.2.2.2.1, hX.2.2.2.2.2.2.2.2.2.2.2.2.2.2.2.1, hX.2.2.2.2.2.2.2.2.2.2.2.2.2.2.2.2.1, hX.2.2.2.2.2.2.2.2.2.2.2.2.2.2.2.2.2.1, hX.2.2.2.2.2.2.2.2.2.2.2.2.2.2.2.2.2.2.1, hX.2.2.2.2.2.2.2.2.2.2.2.2.2.2.2.2.2.2.2.1, hX.2.2.2.2.2.2.2.2.2.2.2.2.2.2.2.2.2.2.2.2.1, hX.2.2.2.2.2.2.2.2.2.2.2.2.2.2.2.2.2.2.2.2.2.1, hX.2.2.2.2.2.2.2.2.2.2.2.2.2.2.2.2.2.2.2.2.2.2.1, hX.2.2.2.2.2.2.2.2.2.2.2.2.2.2.2.2.2.2.2.2.2.2.2.1, hX.2.2.2.2.2.2.2.2.2.2.2.2.2.2.2.2.2.2.2.2.2.2.2.2.1, hX.2.2.2.2.2.2.2.2.2.2.2.2.2.2.2.2.2.2.2.2.2.2.2.2.2.1, hX.2.2.2.2.2.2.2.2.2.2.2.2.2.2.2.2.2.2.2.2.2.2.2.2.2.2⟩ ⟨hM.1, hM.2.1, hM.2.2⟩ hR hP hD hS hl
    · refine behDi (wr := ((uX6 cs (Q 0 0) (fun _ => Q 0 1) (F 1) (A 1) (B 1) (D 1)) ++ ((uX9 cs (Q 0 1) (Q 2) (F 2) (A 2) (B 2) (D 2)) ++ ((uX3 cs (Q 0 2) (Q 3) (F 3) (A 3) (B 3) (D 3)) ++ ((uX8 cs (Q 0 3) (Q 4) (F 4) (A 4) (B 4) (D 4)) ++ ((uX3 cs (Q 4 0) (Q 5) (F 5) (A 5) (B 5) (D 5)) ++ ((uX5 cs (Q 0 6) (Q 6) (F 6) (A 6) (B 6) (D 6)) ++ ((uX5 cs (Q 0 7) (Q 7) (F 7) (A 7) (B 7) (D 7)) ++ ((uX0 cs (Q 0 8) (Q 8) (F 8) (A 8) (B 8) (D 8)) ++ ((uX1 cs (Q 0 9) (Q 9) (F 9) (A 9) (B 9) (D 9)) ++ ((uX4 cs (Q 0 10) (Q 10) (F 10) (A 10) (B 10) (D 10)) ++ ((uX2 cs (Q 0 11) (Q 11) (F 11) (A 11) (B 11) (D 11)) ++ ((uX7 cs (Q 0 20) (Q 12) (F 12) (A 12) (B 12) (D 12)) ++ ((uX7 cs (Q 0 23) (Q 15) (F 15) (A 15) (B 15) (D 15)) ++ ((uX8 cs (Q 0 30) (Q 16) (F 16) (A 16) (B 16) (D 16)) ++ ((uX3 cs (Q 16 0) (Q 17) (F 17) (A 17) (B 17) (D 17)) ++ ((uX8 cs (Q 0 31) (Q 18) (F 18) (A 18) (B 18) (D 18)) ++ ((uX3 cs (Q 18 0) (Q 19) (F 19) (A 19) (B 19) (D 19)) ++ ((uX8 cs (Q 0 32) (Q 20) (F 20) (A 20) (B 20) (D 20)) ++ ((uX3 cs (Q 20 0) (Q 21) (F 21) (A 21) (B 21) (D 21)) ++ ((uX5 cs (Q 8 10) (Q 22) (F 22) (A 22) (B 22) (D 22)) ++ ((uX5 cs (Q 8 11) (Q 23) (F 23) (A 23) (B 23) (D 23)) ++ ((uX5 cs (Q 8 12) (Q 24) (F 24) (A 24) (B 24) (D 24)) ++ ((uX5 cs (Q 8 13) (Q 25) (F 25) (A 25) (B 25) (D 25)) ++ ((uX5 cs (Q 8 14) (Q 26) (F 26) (A 26) (B 26) (D 26)) ++ (mS cs h2 q2 MF MA MD MB)))))))))))))))))))))))))) (runVD (As := [.int 1, .int a2, .int 2, .int a4, .int a5]) (rest := []) ⟨hx, hb, hml, hown, ht⟩ (sX10_paste_1_2 l G cs h1 (Q 0) (F 0) (A 0) (B 0) (D 0) hX.1 (Q 13) (F 13) (A 13) (B 13) (D 13) hX.2.2.2.2.2.2.2.2.2.2.2.2.2.1 (Q 14) (F 14) (A 14) (B 14) (D 14) hX.2.2.2.2.2.2.2.2.2.2.2.2.2.2.1 a2 a4 a5) okV_RL_276 ⟨(Nat.le_of_ble_eq_true rfl), (Nat.le_of_ble_eq_true rfl)⟩ hK hP hD [0, 1, 2, 50, 51, 52, 53] rfl (by decide +kernel) rfl 0 rfl rfl hl.1 rfl (Nat.le_of_ble_eq_true rfl) dL_law_2119 ⟨(Nat.le_of_ble_eq_true rfl), (Nat.le_of_ble_eq_true rfl)⟩) hP hD hS (fun _ h => h) [0, 1, 2, 50, 51, 52, 53] [3, 4, 5, 6, 7, 8, 9, 10, 11, 12, 13, 14, 15, 16, 17, 18, 19, 20, 21, 22, 23, 24, 25, 26, 27, 28, 29, 30, 31, 32, 33, 34, 35, 36, 37, 38, 39, 40, 41, 42, 43, 44, 45, 46, 47, 48, 49, 54, 55, 56, 57, 58, 59, 60, 61, 62, 63, 64, 65, 66, 67, 68, 69, 70, 71, 72, 73, 74, 75, 76, 77, 78, 79, 80, 81, 82, 83, 84, 85, 86, 87, 88, 89, 90, 91, 92, 93, 94, 95, 96, 97, 98, 99, 100, 101, 102, 103, 104, 105, 106, 107, 108, 109, 110, 111, 112, 113, 114, 115, 116, 117, 118, 119, 120] rfl rfl (by decide +kernel) (by decide +kernel) (fun r9 u H locs hu hP hD hS => ?_)
      obtain ⟨y160, rfl⟩ : ∃ z, z = u := ⟨_, rfl⟩
      obtain ⟨r159, rfl⟩ : ∃ z, z = r9 := ⟨_, rfl⟩
      have hr159 := hu
      have kk161 : (1 : Int32).toInt = 1 := by decide
      have kk162 : (2 : Int32).toInt = 2 := by decide
      have hr159 : (((F 13 1).toInt = 0 ∨ (F 14 1).toInt = 0) ∧ r159.toInt = -6) ∨ (¬ (F 13 1).toInt = 0 ∧ ¬ (F 14 1).toInt = 0 ∧ ¬ (F 13 2).toInt = (F 14 2).toInt ∧ r159.toInt = -8) ∨ (¬ (F 13 1).toInt = 0 ∧ ¬ (F 14 1).toInt = 0 ∧ (F 13 2).toInt = (F 14 2).toInt ∧ (a2.toInt < 0 ∨ a4.toInt < 0 ∨ a5.toInt < 0 ∨ (F 13 3).toInt < a2.toInt + a5.toInt ∨ (F 14 3).toInt < a4.toInt + a5.toInt) ∧ r159.toInt = -7) ∨ (¬ (F 13 1).toInt = 0 ∧ ¬ (F 14 1).toInt = 0 ∧ (F 13 2).toInt = (F 14 2).toInt ∧ ¬ (a2.toInt < 0 ∨ a4.toInt < 0 ∨ a5.toInt < 0 ∨ (F 13 3).toInt < a2.toInt + a5.toInt ∨ (F 14 3).toInt < a4.toInt + a5.toInt) ∧ r159.toInt = 0) := hr159
      have hP : va_P G vwCl (LW cs h1 Q h2 q2 F A (vA B 14 (vA (B 14) 0 y160)) D MF MA MD MB) H := hP.sub [114, 115, 116, 0, 1, 2, 3, 4, 5, 6, 7, 8, 9, 10, 11, 12, 13, 14, 15, 16, 17, 18, 19, 20, 21, 22, 23, 24, 25, 26, 27, 28, 29, 30, 31, 32, 33, 34, 35, 36, 37, 38, 39, 40, 41, 42, 43, 44, 45, 46, 117, 118, 119, 120, 47, 48, 49, 50, 51, 52, 53, 54, 55, 56, 57, 58, 59, 60, 61, 62, 63, 64, 65, 66, 67, 68, 69, 70, 71, 72, 73, 74, 75, 76, 77, 78, 79, 80, 81, 82, 83, 84, 85, 86, 87, 88, 89, 90, 91, 92, 93, 94, 95, 96, 97, 98, 99, 100, 101, 102, 103, 104, 105, 106, 107, 108, 109, 110, 111, 112, 113] rfl
      have hD : va_D (fun q : Nat => s.heap.size ≤ q) (LW cs h1 Q h2 q2 F A (vA B 14 (vA (B 14) 0 y160)) D MF MA MD MB) := hD.sub [114, 115, 116, 0, 1, 2, 3, 4, 5, 6, 7, 8, 9, 10, 11, 12, 13, 14, 15, 16, 17, 18, 19, 20, 21, 22, 23, 24, 25, 26, 27, 28, 29, 30, 31, 32, 33, 34, 35, 36, 37, 38, 39, 40, 41, 42, 43, 44, 45, 46, 117, 118, 119, 120, 47, 48, 49, 50, 51, 52, 53, 54, 55, 56, 57, 58, 59, 60, 61, 62, 63, 64, 65, 66, 67, 68, 69, 70, 71, 72, 73, 74, 75, 76, 77, 78, 79, 80, 81, 82, 83, 84, 85, 86, 87, 88, 89, 90, 91, 92, 93, 94, 95, 96, 97, 98, 99, 100, 101, 102, 103, 104, 105, 106, 107, 108, 109, 110, 111, 112, 113] (by decide +kernel) rfl
      refine lv_pop hx hb dL_law_2122 rfl ?_
      refine lv_aload_n hx hb dL_law_2123 rfl (lv_at hl 1 rfl) ?_
      refine lv_aload_n hx hb dL_law_2124 rfl (lv_at hl 3 rfl) ?_
      refine lv_iload_n hx hb dL_law_2125 rfl (lv_at hl 0 rfl) ?_
      refine lv_iconst (v := 1) hx hb dL_law_2126 (by decide) ?_
      refine lv_iadd hx hb dL_law_2127 ?_
      refine va_sld hx hb hXs hbl hbA hS (inK t1 (by omega) (by omega)) dL_law_2128 ?_
      refine W.eq (g2 := F0 m 2129 ls [.int 1, .ref h2]) (by rw [← ea1]) ?_
      refine lv_aload_n hx hb dL_law_2129 rfl (lv_at hl 3 rfl) ?_
      refine lv_iload_n hx hb dL_law_2130 rfl (lv_at hl 0 rfl) ?_
      refine lv_iconst (v := 2) hx hb dL_law_2131 (by decide) ?_
      refine lv_iadd hx hb dL_law_2132 ?_
      refine va_sld hx hb hXs hbl hbA hS (inK t2 (by omega) (by omega)) dL_law_2133 ?_
      refine W.eq (g2 := F0 m 2134 ls [.int a2, .int 1, .ref h2]) (by rw [← ea2]) ?_
      refine lv_aload_n hx hb dL_law_2134 rfl (lv_at hl 3 rfl) ?_
      refine lv_iload_n hx hb dL_law_2135 rfl (lv_at hl 0 rfl) ?_
      refine lv_iconst (v := 3) hx hb dL_law_2136 (by decide) ?_
      refine lv_iadd hx hb dL_law_2137 ?_
      refine va_sld hx hb hXs hbl hbA hS (inK t3 (by omega) (by omega)) dL_law_2138 ?_
      refine W.eq (g2 := F0 m 2139 ls [.int 2, .int a2, .int 1, .ref h2]) (by rw [← ea3]) ?_
      refine lv_aload_n hx hb dL_law_2139 rfl (lv_at hl 3 rfl) ?_
      refine lv_iload_n hx hb dL_law_2140 rfl (lv_at hl 0 rfl) ?_
      refine lv_iconst (v := 4) hx hb dL_law_2141 (by decide) ?_
      refine lv_iadd hx hb dL_law_2142 ?_
      refine va_sld hx hb hXs hbl hbA hS (inK t4 (by omega) (by omega)) dL_law_2143 ?_
      refine W.eq (g2 := F0 m 2144 ls [.int a4, .int 2, .int a2, .int 1, .ref h2]) (by rw [← ea4]) ?_
      refine lv_aload_n hx hb dL_law_2144 rfl (lv_at hl 3 rfl) ?_
      refine lv_iload_n hx hb dL_law_2145 rfl (lv_at hl 0 rfl) ?_
      refine lv_iconst (v := 5) hx hb dL_law_2146 (by decide) ?_
      refine lv_iadd hx hb dL_law_2147 ?_
      refine va_sld hx hb hXs hbl hbA hS (inK t5 (by omega) (by omega)) dL_law_2148 ?_
      refine W.eq (g2 := F0 m 2149 ls [.int a5, .int a4, .int 2, .int a2, .int 1, .ref h2]) (by rw [← ea5]) ?_
      refine behDi (wr := (XLW cs h1 Q F A (vA B 14 (vA (B 14) 0 y160)) D)) (runVD (As := [.int 1, .int a2, .int 2, .int a4, .int a5]) (rest := []) ⟨hx, hb, hml, hown, ht⟩ (sX11_paste l G cs h2 q2 MF MA MD MB hM.1 1 a2 2 a4 a5) okV_RL_279 ⟨(Nat.le_of_ble_eq_true rfl), (Nat.le_of_ble_eq_true rfl)⟩ hK hP hD [101, 102, 103, 104, 105, 106, 107, 108, 109, 110, 111, 112, 113, 114, 115, 116, 117, 118, 119, 120] rfl (by decide +kernel) rfl 101 rfl rfl hl.1 rfl (Nat.le_of_ble_eq_true rfl) dL_law_2149 ⟨(Nat.le_of_ble_eq_true rfl), (Nat.le_of_ble_eq_true rfl)⟩) hP hD hS (fun _ h => h) [101, 102, 103, 104, 105, 106, 107, 108, 109, 110, 111, 112, 113, 114, 115, 116, 117, 118, 119, 120] [0, 1, 2, 3, 4, 5, 6, 7, 8, 9, 10, 11, 12, 13, 14, 15, 16, 17, 18, 19, 20, 21, 22, 23, 24, 25, 26, 27, 28, 29, 30, 31, 32, 33, 34, 35, 36, 37, 38, 39, 40, 41, 42, 43, 44, 45, 46, 47, 48, 49, 50, 51, 52, 53, 54, 55, 56, 57, 58, 59, 60, 61, 62, 63, 64, 65, 66, 67, 68, 69, 70, 71, 72, 73, 74, 75, 76, 77, 78, 79, 80, 81, 82, 83, 84, 85, 86, 87, 88, 89, 90, 91, 92, 93, 94, 95, 96, 97, 98, 99, 100] rfl rfl (by decide +kernel) (by decide +kernel) (fun r9 u H locs hu hP hD hS => ?_)
      obtain ⟨y164, y165⟩ := u
      obtain ⟨r163, rfl⟩ : ∃ z, z = r9 := ⟨_, rfl⟩
      have hr163 := hu
      have kk166 : (1 : Int32).toInt = 1 := by decide
      have kk167 : (2 : Int32).toInt = 2 := by decide
      have hr163 : (r163.toInt = -2 ∧ ((1 : Int32).toInt < 0 ∨ 3 < (1 : Int32).toInt ∨ (2 : Int32).toInt < 0 ∨ 3 < (2 : Int32).toInt)) ∨ ((0 ≤ (1 : Int32).toInt ∧ (1 : Int32).toInt ≤ 3) ∧ (0 ≤ (2 : Int32).toInt ∧ (2 : Int32).toInt ≤ 3) ∧ (((MA 31) (1 : Int32).toNatClampNeg).toInt = -1 ∨ ((MA 31) (2 : Int32).toNatClampNeg).toInt = -1) ∧ r163.toInt = -6) ∨ ((0 ≤ (1 : Int32).toInt ∧ (1 : Int32).toInt ≤ 3) ∧ (0 ≤ (2 : Int32).toInt ∧ (2 : Int32).toInt ≤ 3) ∧ ¬ ((MA 31) (1 : Int32).toNatClampNeg).toInt = -1 ∧ ¬ ((MA 31) (2 : Int32).toNatClampNeg).toInt = -1 ∧ ¬ ((MA 32) (1 : Int32).toNatClampNeg).toInt = ((MA 32) (2 : Int32).toNatClampNeg).toInt ∧ r163.toInt = -8) ∨ ((0 ≤ (1 : Int32).toInt ∧ (1 : Int32).toInt ≤ 3) ∧ (0 ≤ (2 : Int32).toInt ∧ (2 : Int32).toInt ≤ 3) ∧ ¬ ((MA 31) (1 : Int32).toNatClampNeg).toInt = -1 ∧ ¬ ((MA 31) (2 : Int32).toNatClampNeg).toInt = -1 ∧ ((MA 32) (1 : Int32).toNatClampNeg).toInt = ((MA 32) (2 : Int32).toNatClampNeg).toInt ∧ (a2.toInt < 0 ∨ a4.toInt < 0 ∨ a5.toInt < 0 ∨ ((MA 31) (1 : Int32).toNatClampNeg).toInt < a2.toInt + a5.toInt ∨ ((MA 31) (2 : Int32).toNatClampNeg).toInt < a4.toInt + a5.toInt) ∧ r163.toInt = -7) ∨ ((0 ≤ (1 : Int32).toInt ∧ (1 : Int32).toInt ≤ 3) ∧ (0 ≤ (2 : Int32).toInt ∧ (2 : Int32).toInt ≤ 3) ∧ ¬ ((MA 31) (1 : Int32).toNatClampNeg).toInt = -1 ∧ ¬ ((MA 31) (2 : Int32).toNatClampNeg).toInt = -1 ∧ ((MA 32) (1 : Int32).toNatClampNeg).toInt = ((MA 32) (2 : Int32).toNatClampNeg).toInt ∧ ¬ (a2.toInt < 0 ∨ a4.toInt < 0 ∨ a5.toInt < 0 ∨ ((MA 31) (1 : Int32).toNatClampNeg).toInt < a2.toInt + a5.toInt ∨ ((MA 31) (2 : Int32).toNatClampNeg).toInt < a4.toInt + a5.toInt) ∧ r163.toInt = 0) := hr163
      have hP : va_P G vwCl (LW cs h1 Q h2 q2 F A (vA B 14 (vA (B 14) 0 y160)) D MF MA MD (vA (vA MB 33 y164) 34 y165)) H := hP
      have hD : va_D (fun q : Nat => s.heap.size ≤ q) (LW cs h1 Q h2 q2 F A (vA B 14 (vA (B 14) 0 y160)) D MF MA MD (vA (vA MB 33 y164) 34 y165)) := hD
      have n31_1 : (MA 31 (1 : Int32).toNatClampNeg).toInt = (MA 31 1).toInt := congrArg (fun z => (MA 31 z).toInt) (show (1 : Int32).toNatClampNeg = 1 by decide)
      have n32_1 : (MA 32 (1 : Int32).toNatClampNeg).toInt = (MA 32 1).toInt := congrArg (fun z => (MA 32 z).toInt) (show (1 : Int32).toNatClampNeg = 1 by decide)
      have nsr_1 : ((F 13 1).toInt = 0 ∧ (MA 31 1).toInt = -1) ∨ (¬ (F 13 1).toInt = 0 ∧ (MA 31 1).toInt = (F 13 3).toInt ∧ 0 ≤ (F 13 3).toInt ∧ (MA 32 1).toInt = (F 13 2).toInt) := hR.2.2.2.2.1
      have n31_2 : (MA 31 (2 : Int32).toNatClampNeg).toInt = (MA 31 2).toInt := congrArg (fun z => (MA 31 z).toInt) (show (2 : Int32).toNatClampNeg = 2 by decide)
      have n32_2 : (MA 32 (2 : Int32).toNatClampNeg).toInt = (MA 32 2).toInt := congrArg (fun z => (MA 32 z).toInt) (show (2 : Int32).toNatClampNeg = 2 by decide)
      have nsr_2 : ((F 14 1).toInt = 0 ∧ (MA 31 2).toInt = -1) ∨ (¬ (F 14 1).toInt = 0 ∧ (MA 31 2).toInt = (F 14 3).toInt ∧ 0 ≤ (F 14 3).toInt ∧ (MA 32 2).toInt = (F 14 2).toInt) := hR.2.2.2.2.2.1
      refine lv_pop hx hb dL_law_2152 rfl ?_
      refine lv_goto (tgt := 2156) hx hb dL_law_2153 (by decide) ?_
      exact kk F A (vA B 14 (vA (B 14) 0 y160)) D MF MA MD (vA (vA MB 33 y164) 34 y165) H locs ls ⟨hX.1, hX.2.1, hX.2.2.1, hX.2.2.2.1, hX.2.2.2.2.1, hX.2.2.2.2.2.1, hX.2.2.2.2.2.2.1, hX.2.2.2.2.2.2.2.1, hX.2.2.2.2.2.2.2.2.1, hX.2.2.2.2.2.2.2.2.2.1, hX.2.2.2.2.2.2.2.2.2.2.1, hX.2.2.2.2.2.2.2.2.2.2.2.1, hX.2.2.2.2.2.2.2.2.2.2.2.2.1, hX.2.2.2.2.2.2.2.2.2.2.2.2.2.1, hX.2.2.2.2.2.2.2.2.2.2.2.2.2.2.1, hX.2.2.2.2.2.2.2.2.2.2.2.2.2.2.2.1, hX.2.2.2.2.2.2.2.2.2.2.2.2.2.2.2.2.1, hX.2.2.2.2.2.2.2.2.2.2.2.2.2.2.2.2.2.1, hX.2.2.2.2.2.2.2.2.2.2.2.2.2.2.2.2.2.2.1, hX.2.2.2.2.2.2.2.2.2.2.2.2.2.2.2.2.2.2.2.1, hX.2.2.2.2.2.2.2.2.2.2.2.2.2.2.2.2.2.2.2.2.1, hX.2.2.2.2.2.2.2.2.2.2.2.2.2.2.2.2.2.2.2.2.2.1, hX.2.2.2.2.2.2.2.2.2.2.2.2.2.2.2.2.2.2.2.2.2.2.1, hX.2.2.2.2.2.2.2.2.2.2.2.2.2.2.2.2.2.2.2.2.2.2.2.1, hX.2.2.2.2.2.2.2.2.2.2.2.2.2.2.2.2.2.2.2.2.2.2.2.2.1, hX.2.2.2.2.2.2.2.2.2.2.2.2.2.2.2.2.2.2.2.2.2.2.2.2.2.1, hX.2.2.2.2.2.2.2.2.2.2.2.2.2.2.2.2.2.2.2.2.2.2.2.2.2.2⟩ ⟨hM.1, hM.2.1, hM.2.2⟩ hR hP hD hS hl
    · refine behDi (wr := ((uX6 cs (Q 0 0) (fun _ => Q 0 1) (F 1) (A 1) (B 1) (D 1)) ++ ((uX9 cs (Q 0 1) (Q 2) (F 2) (A 2) (B 2) (D 2)) ++ ((uX3 cs (Q 0 2) (Q 3) (F 3) (A 3) (B 3) (D 3)) ++ ((uX8 cs (Q 0 3) (Q 4) (F 4) (A 4) (B 4) (D 4)) ++ ((uX3 cs (Q 4 0) (Q 5) (F 5) (A 5) (B 5) (D 5)) ++ ((uX5 cs (Q 0 6) (Q 6) (F 6) (A 6) (B 6) (D 6)) ++ ((uX5 cs (Q 0 7) (Q 7) (F 7) (A 7) (B 7) (D 7)) ++ ((uX0 cs (Q 0 8) (Q 8) (F 8) (A 8) (B 8) (D 8)) ++ ((uX1 cs (Q 0 9) (Q 9) (F 9) (A 9) (B 9) (D 9)) ++ ((uX4 cs (Q 0 10) (Q 10) (F 10) (A 10) (B 10) (D 10)) ++ ((uX2 cs (Q 0 11) (Q 11) (F 11) (A 11) (B 11) (D 11)) ++ ((uX7 cs (Q 0 20) (Q 12) (F 12) (A 12) (B 12) (D 12)) ++ ((uX7 cs (Q 0 22) (Q 14) (F 14) (A 14) (B 14) (D 14)) ++ ((uX8 cs (Q 0 30) (Q 16) (F 16) (A 16) (B 16) (D 16)) ++ ((uX3 cs (Q 16 0) (Q 17) (F 17) (A 17) (B 17) (D 17)) ++ ((uX8 cs (Q 0 31) (Q 18) (F 18) (A 18) (B 18) (D 18)) ++ ((uX3 cs (Q 18 0) (Q 19) (F 19) (A 19) (B 19) (D 19)) ++ ((uX8 cs (Q 0 32) (Q 20) (F 20) (A 20) (B 20) (D 20)) ++ ((uX3 cs (Q 20 0) (Q 21) (F 21) (A 21) (B 21) (D 21)) ++ ((uX5 cs (Q 8 10) (Q 22) (F 22) (A 22) (B 22) (D 22)) ++ ((uX5 cs (Q 8 11) (Q 23) (F 23) (A 23) (B 23) (D 23)) ++ ((uX5 cs (Q 8 12) (Q 24) (F 24) (A 24) (B 24) (D 24)) ++ ((uX5 cs (Q 8 13) (Q 25) (F 25) (A 25) (B 25) (D 25)) ++ ((uX5 cs (Q 8 14) (Q 26) (F 26) (A 26) (B 26) (D 26)) ++ (mS cs h2 q2 MF MA MD MB)))))))))))))))))))))))))) (runVD (As := [.int 1, .int a2, .int 3, .int a4, .int a5]) (rest := []) ⟨hx, hb, hml, hown, ht⟩ (sX10_paste_1_3 l G cs h1 (Q 0) (F 0) (A 0) (B 0) (D 0) hX.1 (Q 13) (F 13) (A 13) (B 13) (D 13) hX.2.2.2.2.2.2.2.2.2.2.2.2.2.1 (Q 15) (F 15) (A 15) (B 15) (D 15) hX.2.2.2.2.2.2.2.2.2.2.2.2.2.2.2.1 a2 a4 a5) okV_RL_276 ⟨(Nat.le_of_ble_eq_true rfl), (Nat.le_of_ble_eq_true rfl)⟩ hK hP hD [0, 1, 2, 50, 51, 54, 55] rfl (by decide +kernel) rfl 0 rfl rfl hl.1 rfl (Nat.le_of_ble_eq_true rfl) dL_law_2119 ⟨(Nat.le_of_ble_eq_true rfl), (Nat.le_of_ble_eq_true rfl)⟩) hP hD hS (fun _ h => h) [0, 1, 2, 50, 51, 54, 55] [3, 4, 5, 6, 7, 8, 9, 10, 11, 12, 13, 14, 15, 16, 17, 18, 19, 20, 21, 22, 23, 24, 25, 26, 27, 28, 29, 30, 31, 32, 33, 34, 35, 36, 37, 38, 39, 40, 41, 42, 43, 44, 45, 46, 47, 48, 49, 52, 53, 56, 57, 58, 59, 60, 61, 62, 63, 64, 65, 66, 67, 68, 69, 70, 71, 72, 73, 74, 75, 76, 77, 78, 79, 80, 81, 82, 83, 84, 85, 86, 87, 88, 89, 90, 91, 92, 93, 94, 95, 96, 97, 98, 99, 100, 101, 102, 103, 104, 105, 106, 107, 108, 109, 110, 111, 112, 113, 114, 115, 116, 117, 118, 119, 120] rfl rfl (by decide +kernel) (by decide +kernel) (fun r9 u H locs hu hP hD hS => ?_)
      obtain ⟨y169, rfl⟩ : ∃ z, z = u := ⟨_, rfl⟩
      obtain ⟨r168, rfl⟩ : ∃ z, z = r9 := ⟨_, rfl⟩
      have hr168 := hu
      have kk170 : (1 : Int32).toInt = 1 := by decide
      have kk171 : (3 : Int32).toInt = 3 := by decide
      have hr168 : (((F 13 1).toInt = 0 ∨ (F 15 1).toInt = 0) ∧ r168.toInt = -6) ∨ (¬ (F 13 1).toInt = 0 ∧ ¬ (F 15 1).toInt = 0 ∧ ¬ (F 13 2).toInt = (F 15 2).toInt ∧ r168.toInt = -8) ∨ (¬ (F 13 1).toInt = 0 ∧ ¬ (F 15 1).toInt = 0 ∧ (F 13 2).toInt = (F 15 2).toInt ∧ (a2.toInt < 0 ∨ a4.toInt < 0 ∨ a5.toInt < 0 ∨ (F 13 3).toInt < a2.toInt + a5.toInt ∨ (F 15 3).toInt < a4.toInt + a5.toInt) ∧ r168.toInt = -7) ∨ (¬ (F 13 1).toInt = 0 ∧ ¬ (F 15 1).toInt = 0 ∧ (F 13 2).toInt = (F 15 2).toInt ∧ ¬ (a2.toInt < 0 ∨ a4.toInt < 0 ∨ a5.toInt < 0 ∨ (F 13 3).toInt < a2.toInt + a5.toInt ∨ (F 15 3).toInt < a4.toInt + a5.toInt) ∧ r168.toInt = 0) := hr168
      have hP : va_P G vwCl (LW cs h1 Q h2 q2 F A (vA B 15 (vA (B 15) 0 y169)) D MF MA MD MB) H := hP.sub [114, 115, 116, 0, 1, 2, 3, 4, 5, 6, 7, 8, 9, 10, 11, 12, 13, 14, 15, 16, 17, 18, 19, 20, 21, 22, 23, 24, 25, 26, 27, 28, 29, 30, 31, 32, 33, 34, 35, 36, 37, 38, 39, 40, 41, 42, 43, 44, 45, 46, 117, 118, 47, 48, 119, 120, 49, 50, 51, 52, 53, 54, 55, 56, 57, 58, 59, 60, 61, 62, 63, 64, 65, 66, 67, 68, 69, 70, 71, 72, 73, 74, 75, 76, 77, 78, 79, 80, 81, 82, 83, 84, 85, 86, 87, 88, 89, 90, 91, 92, 93, 94, 95, 96, 97, 98, 99, 100, 101, 102, 103, 104, 105, 106, 107, 108, 109, 110, 111, 112, 113] rfl
      have hD : va_D (fun q : Nat => s.heap.size ≤ q) (LW cs h1 Q h2 q2 F A (vA B 15 (vA (B 15) 0 y169)) D MF MA MD MB) := hD.sub [114, 115, 116, 0, 1, 2, 3, 4, 5, 6, 7, 8, 9, 10, 11, 12, 13, 14, 15, 16, 17, 18, 19, 20, 21, 22, 23, 24, 25, 26, 27, 28, 29, 30, 31, 32, 33, 34, 35, 36, 37, 38, 39, 40, 41, 42, 43, 44, 45, 46, 117, 118, 47, 48, 119, 120, 49, 50, 51, 52, 53, 54, 55, 56, 57, 58, 59, 60, 61, 62, 63, 64, 65, 66, 67, 68, 69, 70, 71, 72, 73, 74, 75, 76, 77, 78, 79, 80, 81, 82, 83, 84, 85, 86, 87, 88, 89, 90, 91, 92, 93, 94, 95, 96, 97, 98, 99, 100, 101, 102, 103, 104, 105, 106, 107, 108, 109, 110, 111, 112, 113] (by decide +kernel) rfl
      refine lv_pop hx hb dL_law_2122 rfl ?_
      refine lv_aload_n hx hb dL_law_2123 rfl (lv_at hl 1 rfl) ?_
      refine lv_aload_n hx hb dL_law_2124 rfl (lv_at hl 3 rfl) ?_
      refine lv_iload_n hx hb dL_law_2125 rfl (lv_at hl 0 rfl) ?_
      refine lv_iconst (v := 1) hx hb dL_law_2126 (by decide) ?_
      refine lv_iadd hx hb dL_law_2127 ?_
      refine va_sld hx hb hXs hbl hbA hS (inK t1 (by omega) (by omega)) dL_law_2128 ?_
      refine W.eq (g2 := F0 m 2129 ls [.int 1, .ref h2]) (by rw [← ea1]) ?_
      refine lv_aload_n hx hb dL_law_2129 rfl (lv_at hl 3 rfl) ?_
      refine lv_iload_n hx hb dL_law_2130 rfl (lv_at hl 0 rfl) ?_
      refine lv_iconst (v := 2) hx hb dL_law_2131 (by decide) ?_
      refine lv_iadd hx hb dL_law_2132 ?_
      refine va_sld hx hb hXs hbl hbA hS (inK t2 (by omega) (by omega)) dL_law_2133 ?_
      refine W.eq (g2 := F0 m 2134 ls [.int a2, .int 1, .ref h2]) (by rw [← ea2]) ?_
      refine lv_aload_n hx hb dL_law_2134 rfl (lv_at hl 3 rfl) ?_
      refine lv_iload_n hx hb dL_law_2135 rfl (lv_at hl 0 rfl) ?_
      refine lv_iconst (v := 3) hx hb dL_law_2136 (by decide) ?_
      refine lv_iadd hx hb dL_law_2137 ?_
      refine va_sld hx hb hXs hbl hbA hS (inK t3 (by omega) (by omega)) dL_law_2138 ?_
      refine W.eq (g2 := F0 m 2139 ls [.int 3, .int a2, .int 1, .ref h2]) (by rw [← ea3]) ?_
      refine lv_aload_n hx hb dL_law_2139 rfl (lv_at hl 3 rfl) ?_
      refine lv_iload_n hx hb dL_law_2140 rfl (lv_at hl 0 rfl) ?_
      refine lv_iconst (v := 4) hx hb dL_law_2141 (by decide) ?_
      refine lv_iadd hx hb dL_law_2142 ?_
      refine va_sld hx hb hXs hbl hbA hS (inK t4 (by omega) (by omega)) dL_law_2143 ?_
      refine W.eq (g2 := F0 m 2144 ls [.int a4, .int 3, .int a2, .int 1, .ref h2]) (by rw [← ea4]) ?_
      refine lv_aload_n hx hb dL_law_2144 rfl (lv_at hl 3 rfl) ?_
      refine lv_iload_n hx hb dL_law_2145 rfl (lv_at hl 0 rfl) ?_
      refine lv_iconst (v := 5) hx hb dL_law_2146 (by decide) ?_
      refine lv_iadd hx hb dL_law_2147 ?_
      refine va_sld hx hb hXs hbl hbA hS (inK t5 (by omega) (by omega)) dL_law_2148 ?_
      refine W.eq (g2 := F0 m 2149 ls [.int a5, .int a4, .int 3, .int a2, .int 1, .ref h2]) (by rw [← ea5]) ?_
      refine behDi (wr := (XLW cs h1 Q F A (vA B 15 (vA (B 15) 0 y169)) D)) (runVD (As := [.int 1, .int a2, .int 3, .int a4, .int a5]) (rest := []) ⟨hx, hb, hml, hown, ht⟩ (sX11_paste l G cs h2 q2 MF MA MD MB hM.1 1 a2 3 a4 a5) okV_RL_279 ⟨(Nat.le_of_ble_eq_true rfl), (Nat.le_of_ble_eq_true rfl)⟩ hK hP hD [101, 102, 103, 104, 105, 106, 107, 108, 109, 110, 111, 112, 113, 114, 115, 116, 117, 118, 119, 120] rfl (by decide +kernel) rfl 101 rfl rfl hl.1 rfl (Nat.le_of_ble_eq_true rfl) dL_law_2149 ⟨(Nat.le_of_ble_eq_true rfl), (Nat.le_of_ble_eq_true rfl)⟩) hP hD hS (fun _ h => h) [101, 102, 103, 104, 105, 106, 107, 108, 109, 110, 111, 112, 113, 114, 115, 116, 117, 118, 119, 120] [0, 1, 2, 3, 4, 5, 6, 7, 8, 9, 10, 11, 12, 13, 14, 15, 16, 17, 18, 19, 20, 21, 22, 23, 24, 25, 26, 27, 28, 29, 30, 31, 32, 33, 34, 35, 36, 37, 38, 39, 40, 41, 42, 43, 44, 45, 46, 47, 48, 49, 50, 51, 52, 53, 54, 55, 56, 57, 58, 59, 60, 61, 62, 63, 64, 65, 66, 67, 68, 69, 70, 71, 72, 73, 74, 75, 76, 77, 78, 79, 80, 81, 82, 83, 84, 85, 86, 87, 88, 89, 90, 91, 92, 93, 94, 95, 96, 97, 98, 99, 100] rfl rfl (by decide +kernel) (by decide +kernel) (fun r9 u H locs hu hP hD hS => ?_)
      obtain ⟨y173, y174⟩ := u
      obtain ⟨r172, rfl⟩ : ∃ z, z = r9 := ⟨_, rfl⟩
      have hr172 := hu
      have kk175 : (1 : Int32).toInt = 1 := by decide
      have kk176 : (3 : Int32).toInt = 3 := by decide
      have hr172 : (r172.toInt = -2 ∧ ((1 : Int32).toInt < 0 ∨ 3 < (1 : Int32).toInt ∨ (3 : Int32).toInt < 0 ∨ 3 < (3 : Int32).toInt)) ∨ ((0 ≤ (1 : Int32).toInt ∧ (1 : Int32).toInt ≤ 3) ∧ (0 ≤ (3 : Int32).toInt ∧ (3 : Int32).toInt ≤ 3) ∧ (((MA 31) (1 : Int32).toNatClampNeg).toInt = -1 ∨ ((MA 31) (3 : Int32).toNatClampNeg).toInt = -1) ∧ r172.toInt = -6) ∨ ((0 ≤ (1 : Int32).toInt ∧ (1 : Int32).toInt ≤ 3) ∧ (0 ≤ (3 : Int32).toInt ∧ (3 : Int32).toInt ≤ 3) ∧ ¬ ((MA 31) (1 : Int32).toNatClampNeg).toInt = -1 ∧ ¬ ((MA 31) (3 : Int32).toNatClampNeg).toInt = -1 ∧ ¬ ((MA 32) (1 : Int32).toNatClampNeg).toInt = ((MA 32) (3 : Int32).toNatClampNeg).toInt ∧ r172.toInt = -8) ∨ ((0 ≤ (1 : Int32).toInt ∧ (1 : Int32).toInt ≤ 3) ∧ (0 ≤ (3 : Int32).toInt ∧ (3 : Int32).toInt ≤ 3) ∧ ¬ ((MA 31) (1 : Int32).toNatClampNeg).toInt = -1 ∧ ¬ ((MA 31) (3 : Int32).toNatClampNeg).toInt = -1 ∧ ((MA 32) (1 : Int32).toNatClampNeg).toInt = ((MA 32) (3 : Int32).toNatClampNeg).toInt ∧ (a2.toInt < 0 ∨ a4.toInt < 0 ∨ a5.toInt < 0 ∨ ((MA 31) (1 : Int32).toNatClampNeg).toInt < a2.toInt + a5.toInt ∨ ((MA 31) (3 : Int32).toNatClampNeg).toInt < a4.toInt + a5.toInt) ∧ r172.toInt = -7) ∨ ((0 ≤ (1 : Int32).toInt ∧ (1 : Int32).toInt ≤ 3) ∧ (0 ≤ (3 : Int32).toInt ∧ (3 : Int32).toInt ≤ 3) ∧ ¬ ((MA 31) (1 : Int32).toNatClampNeg).toInt = -1 ∧ ¬ ((MA 31) (3 : Int32).toNatClampNeg).toInt = -1 ∧ ((MA 32) (1 : Int32).toNatClampNeg).toInt = ((MA 32) (3 : Int32).toNatClampNeg).toInt ∧ ¬ (a2.toInt < 0 ∨ a4.toInt < 0 ∨ a5.toInt < 0 ∨ ((MA 31) (1 : Int32).toNatClampNeg).toInt < a2.toInt + a5.toInt ∨ ((MA 31) (3 : Int32).toNatClampNeg).toInt < a4.toInt + a5.toInt) ∧ r172.toInt = 0) := hr172
      have hP : va_P G vwCl (LW cs h1 Q h2 q2 F A (vA B 15 (vA (B 15) 0 y169)) D MF MA MD (vA (vA MB 33 y173) 34 y174)) H := hP
      have hD : va_D (fun q : Nat => s.heap.size ≤ q) (LW cs h1 Q h2 q2 F A (vA B 15 (vA (B 15) 0 y169)) D MF MA MD (vA (vA MB 33 y173) 34 y174)) := hD
      have n31_1 : (MA 31 (1 : Int32).toNatClampNeg).toInt = (MA 31 1).toInt := congrArg (fun z => (MA 31 z).toInt) (show (1 : Int32).toNatClampNeg = 1 by decide)
      have n32_1 : (MA 32 (1 : Int32).toNatClampNeg).toInt = (MA 32 1).toInt := congrArg (fun z => (MA 32 z).toInt) (show (1 : Int32).toNatClampNeg = 1 by decide)
      have nsr_1 : ((F 13 1).toInt = 0 ∧ (MA 31 1).toInt = -1) ∨ (¬ (F 13 1).toInt = 0 ∧ (MA 31 1).toInt = (F 13 3).toInt ∧ 0 ≤ (F 13 3).toInt ∧ (MA 32 1).toInt = (F 13 2).toInt) := hR.2.2.2.2.1
      have n31_3 : (MA 31 (3 : Int32).toNatClampNeg).toInt = (MA 31 3).toInt := congrArg (fun z => (MA 31 z).toInt) (show (3 : Int32).toNatClampNeg = 3 by decide)
      have n32_3 : (MA 32 (3 : Int32).toNatClampNeg).toInt = (MA 32 3).toInt := congrArg (fun z => (MA 32 z).toInt) (show (3 : Int32).toNatClampNeg = 3 by decide)
      have nsr_3 : ((F 15 1).toInt = 0 ∧ (MA 31 3).toInt = -1) ∨ (¬ (F 15 1).toInt = 0 ∧ (MA 31 3).toInt = (F 15 3).toInt ∧ 0 ≤ (F 15 3).toInt ∧ (MA 32 3).toInt = (F 15 2).toInt) := hR.2.2.2.2.2.2
      refine lv_pop hx hb dL_law_2152 rfl ?_
      refine lv_goto (tgt := 2156) hx hb dL_law_2153 (by decide) ?_
      exact kk F A (vA B 15 (vA (B 15) 0 y169)) D MF MA MD (vA (vA MB 33 y173) 34 y174) H locs ls ⟨hX.1, hX.2.1, hX.2.2.1, hX.2.2.2.1, hX.2.2.2.2.1, hX.2.2.2.2.2.1, hX.2.2.2.2.2.2.1, hX.2.2.2.2.2.2.2.1, hX.2.2.2.2.2.2.2.2.1, hX.2.2.2.2.2.2.2.2.2.1, hX.2.2.2.2.2.2.2.2.2.2.1, hX.2.2.2.2.2.2.2.2.2.2.2.1, hX.2.2.2.2.2.2.2.2.2.2.2.2.1, hX.2.2.2.2.2.2.2.2.2.2.2.2.2.1, hX.2.2.2.2.2.2.2.2.2.2.2.2.2.2.1, hX.2.2.2.2.2.2.2.2.2.2.2.2.2.2.2.1, hX.2.2.2.2.2.2.2.2.2.2.2.2.2.2.2.2.1, hX.2.2.2.2.2.2.2.2.2.2.2.2.2.2.2.2.2.1, hX.2.2.2.2.2.2.2.2.2.2.2.2.2.2.2.2.2.2.1, hX.2.2.2.2.2.2.2.2.2.2.2.2.2.2.2.2.2.2.2.1, hX.2.2.2.2.2.2.2.2.2.2.2.2.2.2.2.2.2.2.2.2.1, hX.2.2.2.2.2.2.2.2.2.2.2.2.2.2.2.2.2.2.2.2.2.1, hX.2.2.2.2.2.2.2.2.2.2.2.2.2.2.2.2.2.2.2.2.2.2.1, hX.2.2.2.2.2.2.2.2.2.2.2.2.2.2.2.2.2.2.2.2.2.2.2.1, hX.2.2.2.2.2.2.2.2.2.2.2.2.2.2.2.2.2.2.2.2.2.2.2.2.1, hX.2.2.2.2.2.2.2.2.2.2.2.2.2.2.2.2.2.2.2.2.2.2.2.2.2.1, hX.2.2.2.2.2.2.2.2.2.2.2.2.2.2.2.2.2.2.2.2.2.2.2.2.2.2⟩ ⟨hM.1, hM.2.1, hM.2.2⟩ hR hP hD hS hl
  · rcases csN4 a3 with hN | hN | rfl | rfl | rfl | rfl
    · have bb177 := i32b a3
      refine behR (runVP (As := [.int 2, .int a2, .int a3, .int a4, .int a5]) (rest := []) ⟨hx, hb, hml, hown, ht⟩ (sX10_paste_tolo l G cs h1 (Q 0) (F 0) (A 0) (B 0) (D 0) hX.1 2 a2 a3 a4 a5 (by decide) (by omega)) okV_RL_276 ⟨(Nat.le_of_ble_eq_true rfl), (Nat.le_of_ble_eq_true rfl)⟩ hK hP [0, 1, 2] rfl 0 rfl rfl hl.1 rfl (Nat.le_of_ble_eq_true rfl) dL_law_2119 ⟨(Nat.le_of_ble_eq_true rfl), (Nat.le_of_ble_eq_true rfl)⟩) hP hS (fun _ h => h) (fun r178 H locs hr178 hP hS => ?_)
      have kk179 : (2 : Int32).toInt = 2 := by decide
      have hr178 : r178.toInt = -2 := hr178
      refine lv_pop hx hb dL_law_2122 rfl ?_
      refine lv_aload_n hx hb dL_law_2123 rfl (lv_at hl 1 rfl) ?_
      refine lv_aload_n hx hb dL_law_2124 rfl (lv_at hl 3 rfl) ?_
      refine lv_iload_n hx hb dL_law_2125 rfl (lv_at hl 0 rfl) ?_
      refine lv_iconst (v := 1) hx hb dL_law_2126 (by decide) ?_
      refine lv_iadd hx hb dL_law_2127 ?_
      refine va_sld hx hb hXs hbl hbA hS (inK t1 (by omega) (by omega)) dL_law_2128 ?_
      refine W.eq (g2 := F0 m 2129 ls [.int 2, .ref h2]) (by rw [← ea1]) ?_
      refine lv_aload_n hx hb dL_law_2129 rfl (lv_at hl 3 rfl) ?_
      refine lv_iload_n hx hb dL_law_2130 rfl (lv_at hl 0 rfl) ?_
      refine lv_iconst (v := 2) hx hb dL_law_2131 (by decide) ?_
      refine lv_iadd hx hb dL_law_2132 ?_
      refine va_sld hx hb hXs hbl hbA hS (inK t2 (by omega) (by omega)) dL_law_2133 ?_
      refine W.eq (g2 := F0 m 2134 ls [.int a2, .int 2, .ref h2]) (by rw [← ea2]) ?_
      refine lv_aload_n hx hb dL_law_2134 rfl (lv_at hl 3 rfl) ?_
      refine lv_iload_n hx hb dL_law_2135 rfl (lv_at hl 0 rfl) ?_
      refine lv_iconst (v := 3) hx hb dL_law_2136 (by decide) ?_
      refine lv_iadd hx hb dL_law_2137 ?_
      refine va_sld hx hb hXs hbl hbA hS (inK t3 (by omega) (by omega)) dL_law_2138 ?_
      refine W.eq (g2 := F0 m 2139 ls [.int a3, .int a2, .int 2, .ref h2]) (by rw [← ea3]) ?_
      refine lv_aload_n hx hb dL_law_2139 rfl (lv_at hl 3 rfl) ?_
      refine lv_iload_n hx hb dL_law_2140 rfl (lv_at hl 0 rfl) ?_
      refine lv_iconst (v := 4) hx hb dL_law_2141 (by decide) ?_
      refine lv_iadd hx hb dL_law_2142 ?_
      refine va_sld hx hb hXs hbl hbA hS (inK t4 (by omega) (by omega)) dL_law_2143 ?_
      refine W.eq (g2 := F0 m 2144 ls [.int a4, .int a3, .int a2, .int 2, .ref h2]) (by rw [← ea4]) ?_
      refine lv_aload_n hx hb dL_law_2144 rfl (lv_at hl 3 rfl) ?_
      refine lv_iload_n hx hb dL_law_2145 rfl (lv_at hl 0 rfl) ?_
      refine lv_iconst (v := 5) hx hb dL_law_2146 (by decide) ?_
      refine lv_iadd hx hb dL_law_2147 ?_
      refine va_sld hx hb hXs hbl hbA hS (inK t5 (by omega) (by omega)) dL_law_2148 ?_
      refine W.eq (g2 := F0 m 2149 ls [.int a5, .int a4, .int a3, .int a2, .int 2, .ref h2]) (by rw [← ea5]) ?_
      refine behDi (wr := (XLW cs h1 Q F A B D)) (runVD (As := [.int 2, .int a2, .int a3, .int a4, .int a5]) (rest := []) ⟨hx, hb, hml, hown, ht⟩ (sX11_paste l G cs h2 q2 MF MA MD MB hM.1 2 a2 a3 a4 a5) okV_RL_279 ⟨(Nat.le_of_ble_eq_true rfl), (Nat.le_of_ble_eq_true rfl)⟩ hK hP hD [101, 102, 103, 104, 105, 106, 107, 108, 109, 110, 111, 112, 113, 114, 115, 116, 117, 118, 119, 120] rfl (by decide +kernel) rfl 101 rfl rfl hl.1 rfl (Nat.le_of_ble_eq_true rfl) dL_law_2149 ⟨(Nat.le_of_ble_eq_true rfl), (Nat.le_of_ble_eq_true rfl)⟩) hP hD hS (fun _ h => h) [101, 102, 103, 104, 105, 106, 107, 108, 109, 110, 111, 112, 113, 114, 115, 116, 117, 118, 119, 120] [0, 1, 2, 3, 4, 5, 6, 7, 8, 9, 10, 11, 12, 13, 14, 15, 16, 17, 18, 19, 20, 21, 22, 23, 24, 25, 26, 27, 28, 29, 30, 31, 32, 33, 34, 35, 36, 37, 38, 39, 40, 41, 42, 43, 44, 45, 46, 47, 48, 49, 50, 51, 52, 53, 54, 55, 56, 57, 58, 59, 60, 61, 62, 63, 64, 65, 66, 67, 68, 69, 70, 71, 72, 73, 74, 75, 76, 77, 78, 79, 80, 81, 82, 83, 84, 85, 86, 87, 88, 89, 90, 91, 92, 93, 94, 95, 96, 97, 98, 99, 100] rfl rfl (by decide +kernel) (by decide +kernel) (fun r9 u H locs hu hP hD hS => ?_)
      obtain ⟨y181, y182⟩ := u
      obtain ⟨r180, rfl⟩ : ∃ z, z = r9 := ⟨_, rfl⟩
      have hr180 := hu
      have kk183 : (2 : Int32).toInt = 2 := by decide
      have hr180 : (r180.toInt = -2 ∧ ((2 : Int32).toInt < 0 ∨ 3 < (2 : Int32).toInt ∨ a3.toInt < 0 ∨ 3 < a3.toInt)) ∨ ((0 ≤ (2 : Int32).toInt ∧ (2 : Int32).toInt ≤ 3) ∧ (0 ≤ a3.toInt ∧ a3.toInt ≤ 3) ∧ (((MA 31) (2 : Int32).toNatClampNeg).toInt = -1 ∨ ((MA 31) a3.toNatClampNeg).toInt = -1) ∧ r180.toInt = -6) ∨ ((0 ≤ (2 : Int32).toInt ∧ (2 : Int32).toInt ≤ 3) ∧ (0 ≤ a3.toInt ∧ a3.toInt ≤ 3) ∧ ¬ ((MA 31) (2 : Int32).toNatClampNeg).toInt = -1 ∧ ¬ ((MA 31) a3.toNatClampNeg).toInt = -1 ∧ ¬ ((MA 32) (2 : Int32).toNatClampNeg).toInt = ((MA 32) a3.toNatClampNeg).toInt ∧ r180.toInt = -8) ∨ ((0 ≤ (2 : Int32).toInt ∧ (2 : Int32).toInt ≤ 3) ∧ (0 ≤ a3.toInt ∧ a3.toInt ≤ 3) ∧ ¬ ((MA 31) (2 : Int32).toNatClampNeg).toInt = -1 ∧ ¬ ((MA 31) a3.toNatClampNeg).toInt = -1 ∧ ((MA 32) (2 : Int32).toNatClampNeg).toInt = ((MA 32) a3.toNatClampNeg).toInt ∧ (a2.toInt < 0 ∨ a4.toInt < 0 ∨ a5.toInt < 0 ∨ ((MA 31) (2 : Int32).toNatClampNeg).toInt < a2.toInt + a5.toInt ∨ ((MA 31) a3.toNatClampNeg).toInt < a4.toInt + a5.toInt) ∧ r180.toInt = -7) ∨ ((0 ≤ (2 : Int32).toInt ∧ (2 : Int32).toInt ≤ 3) ∧ (0 ≤ a3.toInt ∧ a3.toInt ≤ 3) ∧ ¬ ((MA 31) (2 : Int32).toNatClampNeg).toInt = -1 ∧ ¬ ((MA 31) a3.toNatClampNeg).toInt = -1 ∧ ((MA 32) (2 : Int32).toNatClampNeg).toInt = ((MA 32) a3.toNatClampNeg).toInt ∧ ¬ (a2.toInt < 0 ∨ a4.toInt < 0 ∨ a5.toInt < 0 ∨ ((MA 31) (2 : Int32).toNatClampNeg).toInt < a2.toInt + a5.toInt ∨ ((MA 31) a3.toNatClampNeg).toInt < a4.toInt + a5.toInt) ∧ r180.toInt = 0) := hr180
      have hP : va_P G vwCl (LW cs h1 Q h2 q2 F A B D MF MA MD (vA (vA MB 33 y181) 34 y182)) H := hP
      have hD : va_D (fun q : Nat => s.heap.size ≤ q) (LW cs h1 Q h2 q2 F A B D MF MA MD (vA (vA MB 33 y181) 34 y182)) := hD
      have n31_2 : (MA 31 (2 : Int32).toNatClampNeg).toInt = (MA 31 2).toInt := congrArg (fun z => (MA 31 z).toInt) (show (2 : Int32).toNatClampNeg = 2 by decide)
      have n32_2 : (MA 32 (2 : Int32).toNatClampNeg).toInt = (MA 32 2).toInt := congrArg (fun z => (MA 32 z).toInt) (show (2 : Int32).toNatClampNeg = 2 by decide)
      have nsr_2 : ((F 14 1).toInt = 0 ∧ (MA 31 2).toInt = -1) ∨ (¬ (F 14 1).toInt = 0 ∧ (MA 31 2).toInt = (F 14 3).toInt ∧ 0 ≤ (F 14 3).toInt ∧ (MA 32 2).toInt = (F 14 2).toInt) := hR.2.2.2.2.2.1
      refine lv_pop hx hb dL_law_2152 rfl ?_
      refine lv_goto (tgt := 2156) hx hb dL_law_2153 (by decide) ?_
      exact kk F A B D MF MA MD (vA (vA MB 33 y181) 34 y182) H locs ls ⟨hX.1, hX.2.1, hX.2.2.1, hX.2.2.2.1, hX.2.2.2.2.1, hX.2.2.2.2.2.1, hX.2.2.2.2.2.2.1, hX.2.2.2.2.2.2.2.1, hX.2.2.2.2.2.2.2.2.1, hX.2.2.2.2.2.2.2.2.2.1, hX.2.2.2.2.2.2.2.2.2.2.1, hX.2.2.2.2.2.2.2.2.2.2.2.1, hX.2.2.2.2.2.2.2.2.2.2.2.2.1, hX.2.2.2.2.2.2.2.2.2.2.2.2.2.1, hX.2.2.2.2.2.2.2.2.2.2.2.2.2.2.1, hX.2.2.2.2.2.2.2.2.2.2.2.2.2.2.2.1, hX.2.2.2.2.2.2.2.2.2.2.2.2.2.2.2.2.1, hX.2.2.2.2.2.2.2.2.2.2.2.2.2.2.2.2.2.1, hX.2.2.2.2.2.2.2.2.2.2.2.2.2.2.2.2.2.2.1, hX.2.2.2.2.2.2.2.2.2.2.2.2.2.2.2.2.2.2.2.1, hX.2.2.2.2.2.2.2.2.2.2.2.2.2.2.2.2.2.2.2.2.1, hX.2.2.2.2.2.2.2.2.2.2.2.2.2.2.2.2.2.2.2.2.2.1, hX.2.2.2.2.2.2.2.2.2.2.2.2.2.2.2.2.2.2.2.2.2.2.1, hX.2.2.2.2.2.2.2.2.2.2.2.2.2.2.2.2.2.2.2.2.2.2.2.1, hX.2.2.2.2.2.2.2.2.2.2.2.2.2.2.2.2.2.2.2.2.2.2.2.2.1, hX.2.2.2.2.2.2.2.2.2.2.2.2.2.2.2.2.2.2.2.2.2.2.2.2.2.1, hX.2.2.2.2.2.2.2.2.2.2.2.2.2.2.2.2.2.2.2.2.2.2.2.2.2.2⟩ ⟨hM.1, hM.2.1, hM.2.2⟩ hR hP hD hS hl
    · have bb184 := i32b a3
      refine behR (runVP (As := [.int 2, .int a2, .int a3, .int a4, .int a5]) (rest := []) ⟨hx, hb, hml, hown, ht⟩ (sX10_paste_tohi l G cs h1 (Q 0) (F 0) (A 0) (B 0) (D 0) hX.1 2 a2 a3 a4 a5 (by decide) (by omega)) okV_RL_276 ⟨(Nat.le_of_ble_eq_true rfl), (Nat.le_of_ble_eq_true rfl)⟩ hK hP [0, 1, 2] rfl 0 rfl rfl hl.1 rfl (Nat.le_of_ble_eq_true rfl) dL_law_2119 ⟨(Nat.le_of_ble_eq_true rfl), (Nat.le_of_ble_eq_true rfl)⟩) hP hS (fun _ h => h) (fun r185 H locs hr185 hP hS => ?_)
      have kk186 : (2 : Int32).toInt = 2 := by decide
      have hr185 : r185.toInt = -2 := hr185
      refine lv_pop hx hb dL_law_2122 rfl ?_
      refine lv_aload_n hx hb dL_law_2123 rfl (lv_at hl 1 rfl) ?_
      refine lv_aload_n hx hb dL_law_2124 rfl (lv_at hl 3 rfl) ?_
      refine lv_iload_n hx hb dL_law_2125 rfl (lv_at hl 0 rfl) ?_
      refine lv_iconst (v := 1) hx hb dL_law_2126 (by decide) ?_
      refine lv_iadd hx hb dL_law_2127 ?_
      refine va_sld hx hb hXs hbl hbA hS (inK t1 (by omega) (by omega)) dL_law_2128 ?_
      refine W.eq (g2 := F0 m 2129 ls [.int 2, .ref h2]) (by rw [← ea1]) ?_
      refine lv_aload_n hx hb dL_law_2129 rfl (lv_at hl 3 rfl) ?_
      refine lv_iload_n hx hb dL_law_2130 rfl (lv_at hl 0 rfl) ?_
      refine lv_iconst (v := 2) hx hb dL_law_2131 (by decide) ?_
      refine lv_iadd hx hb dL_law_2132 ?_
      refine va_sld hx hb hXs hbl hbA hS (inK t2 (by omega) (by omega)) dL_law_2133 ?_
      refine W.eq (g2 := F0 m 2134 ls [.int a2, .int 2, .ref h2]) (by rw [← ea2]) ?_
      refine lv_aload_n hx hb dL_law_2134 rfl (lv_at hl 3 rfl) ?_
      refine lv_iload_n hx hb dL_law_2135 rfl (lv_at hl 0 rfl) ?_
      refine lv_iconst (v := 3) hx hb dL_law_2136 (by decide) ?_
      refine lv_iadd hx hb dL_law_2137 ?_
      refine va_sld hx hb hXs hbl hbA hS (inK t3 (by omega) (by omega)) dL_law_2138 ?_
      refine W.eq (g2 := F0 m 2139 ls [.int a3, .int a2, .int 2, .ref h2]) (by rw [← ea3]) ?_
      refine lv_aload_n hx hb dL_law_2139 rfl (lv_at hl 3 rfl) ?_
      refine lv_iload_n hx hb dL_law_2140 rfl (lv_at hl 0 rfl) ?_
      refine lv_iconst (v := 4) hx hb dL_law_2141 (by decide) ?_
      refine lv_iadd hx hb dL_law_2142 ?_
      refine va_sld hx hb hXs hbl hbA hS (inK t4 (by omega) (by omega)) dL_law_2143 ?_
      refine W.eq (g2 := F0 m 2144 ls [.int a4, .int a3, .int a2, .int 2, .ref h2]) (by rw [← ea4]) ?_
      refine lv_aload_n hx hb dL_law_2144 rfl (lv_at hl 3 rfl) ?_
      refine lv_iload_n hx hb dL_law_2145 rfl (lv_at hl 0 rfl) ?_
      refine lv_iconst (v := 5) hx hb dL_law_2146 (by decide) ?_
      refine lv_iadd hx hb dL_law_2147 ?_
      refine va_sld hx hb hXs hbl hbA hS (inK t5 (by omega) (by omega)) dL_law_2148 ?_
      refine W.eq (g2 := F0 m 2149 ls [.int a5, .int a4, .int a3, .int a2, .int 2, .ref h2]) (by rw [← ea5]) ?_
      refine behDi (wr := (XLW cs h1 Q F A B D)) (runVD (As := [.int 2, .int a2, .int a3, .int a4, .int a5]) (rest := []) ⟨hx, hb, hml, hown, ht⟩ (sX11_paste l G cs h2 q2 MF MA MD MB hM.1 2 a2 a3 a4 a5) okV_RL_279 ⟨(Nat.le_of_ble_eq_true rfl), (Nat.le_of_ble_eq_true rfl)⟩ hK hP hD [101, 102, 103, 104, 105, 106, 107, 108, 109, 110, 111, 112, 113, 114, 115, 116, 117, 118, 119, 120] rfl (by decide +kernel) rfl 101 rfl rfl hl.1 rfl (Nat.le_of_ble_eq_true rfl) dL_law_2149 ⟨(Nat.le_of_ble_eq_true rfl), (Nat.le_of_ble_eq_true rfl)⟩) hP hD hS (fun _ h => h) [101, 102, 103, 104, 105, 106, 107, 108, 109, 110, 111, 112, 113, 114, 115, 116, 117, 118, 119, 120] [0, 1, 2, 3, 4, 5, 6, 7, 8, 9, 10, 11, 12, 13, 14, 15, 16, 17, 18, 19, 20, 21, 22, 23, 24, 25, 26, 27, 28, 29, 30, 31, 32, 33, 34, 35, 36, 37, 38, 39, 40, 41, 42, 43, 44, 45, 46, 47, 48, 49, 50, 51, 52, 53, 54, 55, 56, 57, 58, 59, 60, 61, 62, 63, 64, 65, 66, 67, 68, 69, 70, 71, 72, 73, 74, 75, 76, 77, 78, 79, 80, 81, 82, 83, 84, 85, 86, 87, 88, 89, 90, 91, 92, 93, 94, 95, 96, 97, 98, 99, 100] rfl rfl (by decide +kernel) (by decide +kernel) (fun r9 u H locs hu hP hD hS => ?_)
      obtain ⟨y188, y189⟩ := u
      obtain ⟨r187, rfl⟩ : ∃ z, z = r9 := ⟨_, rfl⟩
      have hr187 := hu
      have kk190 : (2 : Int32).toInt = 2 := by decide
      have hr187 : (r187.toInt = -2 ∧ ((2 : Int32).toInt < 0 ∨ 3 < (2 : Int32).toInt ∨ a3.toInt < 0 ∨ 3 < a3.toInt)) ∨ ((0 ≤ (2 : Int32).toInt ∧ (2 : Int32).toInt ≤ 3) ∧ (0 ≤ a3.toInt ∧ a3.toInt ≤ 3) ∧ (((MA 31) (2 : Int32).toNatClampNeg).toInt = -1 ∨ ((MA 31) a3.toNatClampNeg).toInt = -1) ∧ r187.toInt = -6) ∨ ((0 ≤ (2 : Int32).toInt ∧ (2 : Int32).toInt ≤ 3) ∧ (0 ≤ a3.toInt ∧ a3.toInt ≤ 3) ∧ ¬ ((MA 31) (2 : Int32).toNatClampNeg).toInt = -1 ∧ ¬ ((MA 31) a3.toNatClampNeg).toInt = -1 ∧ ¬ ((MA 32) (2 : Int32).toNatClampNeg).toInt = ((MA 32) a3.toNatClampNeg).toInt ∧ r187.toInt = -8) ∨ ((0 ≤ (2 : Int32).toInt ∧ (2 : Int32).toInt ≤ 3) ∧ (0 ≤ a3.toInt ∧ a3.toInt ≤ 3) ∧ ¬ ((MA 31) (2 : Int32).toNatClampNeg).toInt = -1 ∧ ¬ ((MA 31) a3.toNatClampNeg).toInt = -1 ∧ ((MA 32) (2 : Int32).toNatClampNeg).toInt = ((MA 32) a3.toNatClampNeg).toInt ∧ (a2.toInt < 0 ∨ a4.toInt < 0 ∨ a5.toInt < 0 ∨ ((MA 31) (2 : Int32).toNatClampNeg).toInt < a2.toInt + a5.toInt ∨ ((MA 31) a3.toNatClampNeg).toInt < a4.toInt + a5.toInt) ∧ r187.toInt = -7) ∨ ((0 ≤ (2 : Int32).toInt ∧ (2 : Int32).toInt ≤ 3) ∧ (0 ≤ a3.toInt ∧ a3.toInt ≤ 3) ∧ ¬ ((MA 31) (2 : Int32).toNatClampNeg).toInt = -1 ∧ ¬ ((MA 31) a3.toNatClampNeg).toInt = -1 ∧ ((MA 32) (2 : Int32).toNatClampNeg).toInt = ((MA 32) a3.toNatClampNeg).toInt ∧ ¬ (a2.toInt < 0 ∨ a4.toInt < 0 ∨ a5.toInt < 0 ∨ ((MA 31) (2 : Int32).toNatClampNeg).toInt < a2.toInt + a5.toInt ∨ ((MA 31) a3.toNatClampNeg).toInt < a4.toInt + a5.toInt) ∧ r187.toInt = 0) := hr187
      have hP : va_P G vwCl (LW cs h1 Q h2 q2 F A B D MF MA MD (vA (vA MB 33 y188) 34 y189)) H := hP
      have hD : va_D (fun q : Nat => s.heap.size ≤ q) (LW cs h1 Q h2 q2 F A B D MF MA MD (vA (vA MB 33 y188) 34 y189)) := hD
      have n31_2 : (MA 31 (2 : Int32).toNatClampNeg).toInt = (MA 31 2).toInt := congrArg (fun z => (MA 31 z).toInt) (show (2 : Int32).toNatClampNeg = 2 by decide)
      have n32_2 : (MA 32 (2 : Int32).toNatClampNeg).toInt = (MA 32 2).toInt := congrArg (fun z => (MA 32 z).toInt) (show (2 : Int32).toNatClampNeg = 2 by decide)
      have nsr_2 : ((F 14 1).toInt = 0 ∧ (MA 31 2).toInt = -1) ∨ (¬ (F 14 1).toInt = 0 ∧ (MA 31 2).toInt = (F 14 3).toInt ∧ 0 ≤ (F 14 3).toInt ∧ (MA 32 2).toInt = (F 14 2).toInt) := hR.2.2.2.2.2.1
      refine lv_pop hx hb dL_law_2152 rfl ?_
      refine lv_goto (tgt := 2156) hx hb dL_law_2153 (by decide) ?_
      exact kk F A B D MF MA MD (vA (vA MB 33 y188) 34 y189) H locs ls ⟨hX.1, hX.2.1, hX.2.2.1, hX.2.2.2.1, hX.2.2.2.2.1, hX.2.2.2.2.2.1, hX.2.2.2.2.2.2.1, hX.2.2.2.2.2.2.2.1, hX.2.2.2.2.2.2.2.2.1, hX.2.2.2.2.2.2.2.2.2.1, hX.2.2.2.2.2.2.2.2.2.2.1, hX.2.2.2.2.2.2.2.2.2.2.2.1, hX.2.2.2.2.2.2.2.2.2.2.2.2.1, hX.2.2.2.2.2.2.2.2.2.2.2.2.2.1, hX.2.2.2.2.2.2.2.2.2.2.2.2.2.2.1, hX.2.2.2.2.2.2.2.2.2.2.2.2.2.2.2.1, hX.2.2.2.2.2.2.2.2.2.2.2.2.2.2.2.2.1, hX.2.2.2.2.2.2.2.2.2.2.2.2.2.2.2.2.2.1, hX.2.2.2.2.2.2.2.2.2.2.2.2.2.2.2.2.2.2.1, hX.2.2.2.2.2.2.2.2.2.2.2.2.2.2.2.2.2.2.2.1, hX.2.2.2.2.2.2.2.2.2.2.2.2.2.2.2.2.2.2.2.2.1, hX.2.2.2.2.2.2.2.2.2.2.2.2.2.2.2.2.2.2.2.2.2.1, hX.2.2.2.2.2.2.2.2.2.2.2.2.2.2.2.2.2.2.2.2.2.2.1, hX.2.2.2.2.2.2.2.2.2.2.2.2.2.2.2.2.2.2.2.2.2.2.2.1, hX.2.2.2.2.2.2.2.2.2.2.2.2.2.2.2.2.2.2.2.2.2.2.2.2.1, hX.2.2.2.2.2.2.2.2.2.2.2.2.2.2.2.2.2.2.2.2.2.2.2.2.2.1, hX.2.2.2.2.2.2.2.2.2.2.2.2.2.2.2.2.2.2.2.2.2.2.2.2.2.2⟩ ⟨hM.1, hM.2.1, hM.2.2⟩ hR hP hD hS hl
    · refine behDi (wr := ((uX6 cs (Q 0 0) (fun _ => Q 0 1) (F 1) (A 1) (B 1) (D 1)) ++ ((uX9 cs (Q 0 1) (Q 2) (F 2) (A 2) (B 2) (D 2)) ++ ((uX3 cs (Q 0 2) (Q 3) (F 3) (A 3) (B 3) (D 3)) ++ ((uX8 cs (Q 0 3) (Q 4) (F 4) (A 4) (B 4) (D 4)) ++ ((uX3 cs (Q 4 0) (Q 5) (F 5) (A 5) (B 5) (D 5)) ++ ((uX5 cs (Q 0 6) (Q 6) (F 6) (A 6) (B 6) (D 6)) ++ ((uX5 cs (Q 0 7) (Q 7) (F 7) (A 7) (B 7) (D 7)) ++ ((uX0 cs (Q 0 8) (Q 8) (F 8) (A 8) (B 8) (D 8)) ++ ((uX1 cs (Q 0 9) (Q 9) (F 9) (A 9) (B 9) (D 9)) ++ ((uX4 cs (Q 0 10) (Q 10) (F 10) (A 10) (B 10) (D 10)) ++ ((uX2 cs (Q 0 11) (Q 11) (F 11) (A 11) (B 11) (D 11)) ++ ((uX7 cs (Q 0 21) (Q 13) (F 13) (A 13) (B 13) (D 13)) ++ ((uX7 cs (Q 0 23) (Q 15) (F 15) (A 15) (B 15) (D 15)) ++ ((uX8 cs (Q 0 30) (Q 16) (F 16) (A 16) (B 16) (D 16)) ++ ((uX3 cs (Q 16 0) (Q 17) (F 17) (A 17) (B 17) (D 17)) ++ ((uX8 cs (Q 0 31) (Q 18) (F 18) (A 18) (B 18) (D 18)) ++ ((uX3 cs (Q 18 0) (Q 19) (F 19) (A 19) (B 19) (D 19)) ++ ((uX8 cs (Q 0 32) (Q 20) (F 20) (A 20) (B 20) (D 20)) ++ ((uX3 cs (Q 20 0) (Q 21) (F 21) (A 21) (B 21) (D 21)) ++ ((uX5 cs (Q 8 10) (Q 22) (F 22) (A 22) (B 22) (D 22)) ++ ((uX5 cs (Q 8 11) (Q 23) (F 23) (A 23) (B 23) (D 23)) ++ ((uX5 cs (Q 8 12) (Q 24) (F 24) (A 24) (B 24) (D 24)) ++ ((uX5 cs (Q 8 13) (Q 25) (F 25) (A 25) (B 25) (D 25)) ++ ((uX5 cs (Q 8 14) (Q 26) (F 26) (A 26) (B 26) (D 26)) ++ (mS cs h2 q2 MF MA MD MB)))))))))))))))))))))))))) (runVD (As := [.int 2, .int a2, .int 0, .int a4, .int a5]) (rest := []) ⟨hx, hb, hml, hown, ht⟩ (sX10_paste_2_0 l G cs h1 (Q 0) (F 0) (A 0) (B 0) (D 0) hX.1 (Q 14) (F 14) (A 14) (B 14) (D 14) hX.2.2.2.2.2.2.2.2.2.2.2.2.2.2.1 (Q 12) (F 12) (A 12) (B 12) (D 12) hX.2.2.2.2.2.2.2.2.2.2.2.2.1 a2 a4 a5) okV_RL_276 ⟨(Nat.le_of_ble_eq_true rfl), (Nat.le_of_ble_eq_true rfl)⟩ hK hP hD [0, 1, 2, 52, 53, 48, 49] rfl (by decide +kernel) rfl 0 rfl rfl hl.1 rfl (Nat.le_of_ble_eq_true rfl) dL_law_2119 ⟨(Nat.le_of_ble_eq_true rfl), (Nat.le_of_ble_eq_true rfl)⟩) hP hD hS (fun _ h => h) [0, 1, 2, 52, 53, 48, 49] [3, 4, 5, 6, 7, 8, 9, 10, 11, 12, 13, 14, 15, 16, 17, 18, 19, 20, 21, 22, 23, 24, 25, 26, 27, 28, 29, 30, 31, 32, 33, 34, 35, 36, 37, 38, 39, 40, 41, 42, 43, 44, 45, 46, 47, 50, 51, 54, 55, 56, 57, 58, 59, 60, 61, 62, 63, 64, 65, 66, 67, 68, 69, 70, 71, 72, 73, 74, 75, 76, 77, 78, 79, 80, 81, 82, 83, 84, 85, 86, 87, 88, 89, 90, 91, 92, 93, 94, 95, 96, 97, 98, 99, 100, 101, 102, 103, 104, 105, 106, 107, 108, 109, 110, 111, 112, 113, 114, 115, 116, 117, 118, 119, 120] rfl rfl (by decide +kernel) (by decide +kernel) (fun r9 u H locs hu hP hD hS => ?_)
      obtain ⟨y192, rfl⟩ : ∃ z, z = u := ⟨_, rfl⟩
      obtain ⟨r191, rfl⟩ : ∃ z, z = r9 := ⟨_, rfl⟩
      have hr191 := hu
      have kk193 : (2 : Int32).toInt = 2 := by decide
      have kk194 : (0 : Int32).toInt = 0 := by decide
      have hr191 : (((F 14 1).toInt = 0 ∨ (F 12 1).toInt = 0) ∧ r191.toInt = -6) ∨ (¬ (F 14 1).toInt = 0 ∧ ¬ (F 12 1).toInt = 0 ∧ ¬ (F 14 2).toInt = (F 12 2).toInt ∧ r191.toInt = -8) ∨ (¬ (F 14 1).toInt = 0 ∧ ¬ (F 12 1).toInt = 0 ∧ (F 14 2).toInt = (F 12 2).toInt ∧ (a2.toInt < 0 ∨ a4.toInt < 0 ∨ a5.toInt < 0 ∨ (F 14 3).toInt < a2.toInt + a5.toInt ∨ (F 12 3).toInt < a4.toInt + a5.toInt) ∧ r191.toInt = -7) ∨ (¬ (F 14 1).toInt = 0 ∧ ¬ (F 12 1).toInt = 0 ∧ (F 14 2).toInt = (F 12 2).toInt ∧ ¬ (a2.toInt < 0 ∨ a4.toInt < 0 ∨ a5.toInt < 0 ∨ (F 14 3).toInt < a2.toInt + a5.toInt ∨ (F 12 3).toInt < a4.toInt + a5.toInt) ∧ r191.toInt = 0) := hr191
      have hP : va_P G vwCl (LW cs h1 Q h2 q2 F A (vA B 12 (vA (B 12) 0 y192)) D MF MA MD MB) H := hP.sub [114, 115, 116, 0, 1, 2, 3, 4, 5, 6, 7, 8, 9, 10, 11, 12, 13, 14, 15, 16, 17, 18, 19, 20, 21, 22, 23, 24, 25, 26, 27, 28, 29, 30, 31, 32, 33, 34, 35, 36, 37, 38, 39, 40, 41, 42, 43, 44, 119, 120, 45, 46, 117, 118, 47, 48, 49, 50, 51, 52, 53, 54, 55, 56, 57, 58, 59, 60, 61, 62, 63, 64, 65, 66, 67, 68, 69, 70, 71, 72, 73, 74, 75, 76, 77, 78, 79, 80, 81, 82, 83, 84, 85, 86, 87, 88, 89, 90, 91, 92, 93, 94, 95, 96, 97, 98, 99, 100, 101, 102, 103, 104, 105, 106, 107, 108, 109, 110, 111, 112, 113] rfl
      have hD : va_D (fun q : Nat => s.heap.size ≤ q) (LW cs h1 Q h2 q2 F A (vA B 12 (vA (B 12) 0 y192)) D MF MA MD MB) := hD.sub [114, 115, 116, 0, 1, 2, 3, 4, 5, 6, 7, 8, 9, 10, 11, 12, 13, 14, 15, 16, 17, 18, 19, 20, 21, 22, 23, 24, 25, 26, 27, 28, 29, 30, 31, 32, 33, 34, 35, 36, 37, 38, 39, 40, 41, 42, 43, 44, 119, 120, 45, 46, 117, 118, 47, 48, 49, 50, 51, 52, 53, 54, 55, 56, 57, 58, 59, 60, 61, 62, 63, 64, 65, 66, 67, 68, 69, 70, 71, 72, 73, 74, 75, 76, 77, 78, 79, 80, 81, 82, 83, 84, 85, 86, 87, 88, 89, 90, 91, 92, 93, 94, 95, 96, 97, 98, 99, 100, 101, 102, 103, 104, 105, 106, 107, 108, 109, 110, 111, 112, 113] (by decide +kernel) rfl
      refine lv_pop hx hb dL_law_2122 rfl ?_
      refine lv_aload_n hx hb dL_law_2123 rfl (lv_at hl 1 rfl) ?_
      refine lv_aload_n hx hb dL_law_2124 rfl (lv_at hl 3 rfl) ?_
      refine lv_iload_n hx hb dL_law_2125 rfl (lv_at hl 0 rfl) ?_
      refine lv_iconst (v := 1) hx hb dL_law_2126 (by decide) ?_
      refine lv_iadd hx hb dL_law_2127 ?_
      refine va_sld hx hb hXs hbl hbA hS (inK t1 (by omega) (by omega)) dL_law_2128 ?_
      refine W.eq (g2 := F0 m 2129 ls [.int 2, .ref h2]) (by rw [← ea1]) ?_
      refine lv_aload_n hx hb dL_law_2129 rfl (lv_at hl 3 rfl) ?_
      refine lv_iload_n hx hb dL_law_2130 rfl (lv_at hl 0 rfl) ?_
      refine lv_iconst (v := 2) hx hb dL_law_2131 (by decide) ?_
      refine lv_iadd hx hb dL_law_2132 ?_
      refine va_sld hx hb hXs hbl hbA hS (inK t2 (by omega) (by omega)) dL_law_2133 ?_
      refine W.eq (g2 := F0 m 2134 ls [.int a2, .int 2, .ref h2]) (by rw [← ea2]) ?_
      refine lv_aload_n hx hb dL_law_2134 rfl (lv_at hl 3 rfl) ?_
      refine lv_iload_n hx hb dL_law_2135 rfl (lv_at hl 0 rfl) ?_
      refine lv_iconst (v := 3) hx hb dL_law_2136 (by decide) ?_
      refine lv_iadd hx hb dL_law_2137 ?_
      refine va_sld hx hb hXs hbl hbA hS (inK t3 (by omega) (by omega)) dL_law_2138 ?_
      refine W.eq (g2 := F0 m 2139 ls [.int 0, .int a2, .int 2, .ref h2]) (by rw [← ea3]) ?_
      refine lv_aload_n hx hb dL_law_2139 rfl (lv_at hl 3 rfl) ?_
      refine lv_iload_n hx hb dL_law_2140 rfl (lv_at hl 0 rfl) ?_
      refine lv_iconst (v := 4) hx hb dL_law_2141 (by decide) ?_
      refine lv_iadd hx hb dL_law_2142 ?_
      refine va_sld hx hb hXs hbl hbA hS (inK t4 (by omega) (by omega)) dL_law_2143 ?_
      refine W.eq (g2 := F0 m 2144 ls [.int a4, .int 0, .int a2, .int 2, .ref h2]) (by rw [← ea4]) ?_
      refine lv_aload_n hx hb dL_law_2144 rfl (lv_at hl 3 rfl) ?_
      refine lv_iload_n hx hb dL_law_2145 rfl (lv_at hl 0 rfl) ?_
      refine lv_iconst (v := 5) hx hb dL_law_2146 (by decide) ?_
      refine lv_iadd hx hb dL_law_2147 ?_
      refine va_sld hx hb hXs hbl hbA hS (inK t5 (by omega) (by omega)) dL_law_2148 ?_
      refine W.eq (g2 := F0 m 2149 ls [.int a5, .int a4, .int 0, .int a2, .int 2, .ref h2]) (by rw [← ea5]) ?_
      refine behDi (wr := (XLW cs h1 Q F A (vA B 12 (vA (B 12) 0 y192)) D)) (runVD (As := [.int 2, .int a2, .int 0, .int a4, .int a5]) (rest := []) ⟨hx, hb, hml, hown, ht⟩ (sX11_paste l G cs h2 q2 MF MA MD MB hM.1 2 a2 0 a4 a5) okV_RL_279 ⟨(Nat.le_of_ble_eq_true rfl), (Nat.le_of_ble_eq_true rfl)⟩ hK hP hD [101, 102, 103, 104, 105, 106, 107, 108, 109, 110, 111, 112, 113, 114, 115, 116, 117, 118, 119, 120] rfl (by decide +kernel) rfl 101 rfl rfl hl.1 rfl (Nat.le_of_ble_eq_true rfl) dL_law_2149 ⟨(Nat.le_of_ble_eq_true rfl), (Nat.le_of_ble_eq_true rfl)⟩) hP hD hS (fun _ h => h) [101, 102, 103, 104, 105, 106, 107, 108, 109, 110, 111, 112, 113, 114, 115, 116, 117, 118, 119, 120] [0, 1, 2, 3, 4, 5, 6, 7, 8, 9, 10, 11, 12, 13, 14, 15, 16, 17, 18, 19, 20, 21, 22, 23, 24, 25, 26, 27, 28, 29, 30, 31, 32, 33, 34, 35, 36, 37, 38, 39, 40, 41, 42, 43, 44, 45, 46, 47, 48, 49, 50, 51, 52, 53, 54, 55, 56, 57, 58, 59, 60, 61, 62, 63, 64, 65, 66, 67, 68, 69, 70, 71, 72, 73, 74, 75, 76, 77, 78, 79, 80, 81, 82, 83, 84, 85, 86, 87, 88, 89, 90, 91, 92, 93, 94, 95, 96, 97, 98, 99, 100] rfl rfl (by decide +kernel) (by decide +kernel) (fun r9 u H locs hu hP hD hS => ?_)
      obtain ⟨y196, y197⟩ := u
      obtain ⟨r195, rfl⟩ : ∃ z, z = r9 := ⟨_, rfl⟩
      have hr195 := hu
      have kk198 : (2 : Int32).toInt = 2 := by decide
      have kk199 : (0 : Int32).toInt = 0 := by decide
      have hr195 : (r195.toInt = -2 ∧ ((2 : Int32).toInt < 0 ∨ 3 < (2 : Int32).toInt ∨ (0 : Int32).toInt < 0 ∨ 3 < (0 : Int32).toInt)) ∨ ((0 ≤ (2 : Int32).toInt ∧ (2 : Int32).toInt ≤ 3) ∧ (0 ≤ (0 : Int32).toInt ∧ (0 : Int32).toInt ≤ 3) ∧ (((MA 31) (2 : Int32).toNatClampNeg).toInt = -1 ∨ ((MA 31) (0 : Int32).toNatClampNeg).toInt = -1) ∧ r195.toInt = -6) ∨ ((0 ≤ (2 : Int32).toInt ∧ (2 : Int32).toInt ≤ 3) ∧ (0 ≤ (0 : Int32).toInt ∧ (0 : Int32).toInt ≤ 3) ∧ ¬ ((MA 31) (2 : Int32).toNatClampNeg).toInt = -1 ∧ ¬ ((MA 31) (0 : Int32).toNatClampNeg).toInt = -1 ∧ ¬ ((MA 32) (2 : Int32).toNatClampNeg).toInt = ((MA 32) (0 : Int32).toNatClampNeg).toInt ∧ r195.toInt = -8) ∨ ((0 ≤ (2 : Int32).toInt ∧ (2 : Int32).toInt ≤ 3) ∧ (0 ≤ (0 : Int32).toInt ∧ (0 : Int32).toInt ≤ 3) ∧ ¬ ((MA 31) (2 : Int32).toNatClampNeg).toInt = -1 ∧ ¬ ((MA 31) (0 : Int32).toNatClampNeg).toInt = -1 ∧ ((MA 32) (2 : Int32).toNatClampNeg).toInt = ((MA 32) (0 : Int32).toNatClampNeg).toInt ∧ (a2.toInt < 0 ∨ a4.toInt < 0 ∨ a5.toInt < 0 ∨ ((MA 31) (2 : Int32).toNatClampNeg).toInt < a2.toInt + a5.toInt ∨ ((MA 31) (0 : Int32).toNatClampNeg).toInt < a4.toInt + a5.toInt) ∧ r195.toInt = -7) ∨ ((0 ≤ (2 : Int32).toInt ∧ (2 : Int32).toInt ≤ 3) ∧ (0 ≤ (0 : Int32).toInt ∧ (0 : Int32).toInt ≤ 3) ∧ ¬ ((MA 31) (2 : Int32).toNatClampNeg).toInt = -1 ∧ ¬ ((MA 31) (0 : Int32).toNatClampNeg).toInt = -1 ∧ ((MA 32) (2 : Int32).toNatClampNeg).toInt = ((MA 32) (0 : Int32).toNatClampNeg).toInt ∧ ¬ (a2.toInt < 0 ∨ a4.toInt < 0 ∨ a5.toInt < 0 ∨ ((MA 31) (2 : Int32).toNatClampNeg).toInt < a2.toInt + a5.toInt ∨ ((MA 31) (0 : Int32).toNatClampNeg).toInt < a4.toInt + a5.toInt) ∧ r195.toInt = 0) := hr195
      have hP : va_P G vwCl (LW cs h1 Q h2 q2 F A (vA B 12 (vA (B 12) 0 y192)) D MF MA MD (vA (vA MB 33 y196) 34 y197)) H := hP
      have hD : va_D (fun q : Nat => s.heap.size ≤ q) (LW cs h1 Q h2 q2 F A (vA B 12 (vA (B 12) 0 y192)) D MF MA MD (vA (vA MB 33 y196) 34 y197)) := hD
      have n31_0 : (MA 31 (0 : Int32).toNatClampNeg).toInt = (MA 31 0).toInt := congrArg (fun z => (MA 31 z).toInt) (show (0 : Int32).toNatClampNeg = 0 by decide)
      have n32_0 : (MA 32 (0 : Int32).toNatClampNeg).toInt = (MA 32 0).toInt := congrArg (fun z => (MA 32 z).toInt) (show (0 : Int32).toNatClampNeg = 0 by decide)
      have nsr_0 : ((F 12 1).toInt = 0 ∧ (MA 31 0).toInt = -1) ∨ (¬ (F 12 1).toInt = 0 ∧ (MA 31 0).toInt = (F 12 3).toInt ∧ 0 ≤ (F 12 3).toInt ∧ (MA 32 0).toInt = (F 12 2).toInt) := hR.2.2.2.1
      have n31_2 : (MA 31 (2 : Int32).toNatClampNeg).toInt = (MA 31 2).toInt := congrArg (fun z => (MA 31 z).toInt) (show (2 : Int32).toNatClampNeg = 2 by decide)
      have n32_2 : (MA 32 (2 : Int32).toNatClampNeg).toInt = (MA 32 2).toInt := congrArg (fun z => (MA 32 z).toInt) (show (2 : Int32).toNatClampNeg = 2 by decide)
      have nsr_2 : ((F 14 1).toInt = 0 ∧ (MA 31 2).toInt = -1) ∨ (¬ (F 14 1).toInt = 0 ∧ (MA 31 2).toInt = (F 14 3).toInt ∧ 0 ≤ (F 14 3).toInt ∧ (MA 32 2).toInt = (F 14 2).toInt) := hR.2.2.2.2.2.1
      refine lv_pop hx hb dL_law_2152 rfl ?_
      refine lv_goto (tgt := 2156) hx hb dL_law_2153 (by decide) ?_
      exact kk F A (vA B 12 (vA (B 12) 0 y192)) D MF MA MD (vA (vA MB 33 y196) 34 y197) H locs ls ⟨hX.1, hX.2.1, hX.2.2.1, hX.2.2.2.1, hX.2.2.2.2.1, hX.2.2.2.2.2.1, hX.2.2.2.2.2.2.1, hX.2.2.2.2.2.2.2.1, hX.2.2.2.2.2.2.2.2.1, hX.2.2.2.2.2.2.2.2.2.1, hX.2.2.2.2.2.2.2.2.2.2.1, hX.2.2.2.2.2.2.2.2.2.2.2.1, hX.2.2.2.2.2.2.2.2.2.2.2.2.1, hX.2.2.2.2.2.2.2.2.2.2.2.2.2.1, hX.2.2.2.2.2.2.2.2.2.2.2.2.2.2.1, hX.2.2.2.2.2.2.2.2.2.2.2.2.2.2.2.1, hX.2.2.2.2.2.2.2.2.2.2.2.2.2.2.2.2.1, hX.2.2.2.2.2.2.2.2.2.2.2.2.2.2.2.2.2.1, hX.2.2.2.2.2.2.2.2.2.2.2.2.2.2.2.2.2.2.1, hX.2.2.2.2.2.2.2.2.2.2.2.2.2.2.2.2.2.2.2.1, hX.2.2.2.2.2.2.2.2.2.2.2.2.2.2.2.2.2.2.2.2.1, hX.2.2.2.2.2.2.2.2.2.2.2.2.2.2.2.2.2.2.2.2.2.1, hX.2.2.2.2.2.2.2.2.2.2.2.2.2.2.2.2.2.2.2.2.2.2.1, hX.2.2.2.2.2.2.2.2.2.2.2.2.2.2.2.2.2.2.2.2.2.2.2.1, hX.2.2.2.2.2.2.2.2.2.2.2.2.2.2.2.2.2.2.2.2.2.2.2.2.1, hX.2.2.2.2.2.2.2.2.2.2.2.2.2.2.2.2.2.2.2.2.2.2.2.2.2.1, hX.2.2.2.2.2.2.2.2.2.2.2.2.2.2.2.2.2.2.2.2.2.2.2.2.2.2⟩ ⟨hM.1, hM.2.1, hM.2.2⟩ hR hP hD hS hl
    · refine behDi (wr := ((uX6 cs (Q 0 0) (fun _ => Q 0 1) (F 1) (A 1) (B 1) (D 1)) ++ ((uX9 cs (Q 0 1) (Q 2) (F 2) (A 2) (B 2) (D 2)) ++ ((uX3 cs (Q 0 2) (Q 3) (F 3) (A 3) (B 3) (D 3)) ++ ((uX8 cs (Q 0 3) (Q 4) (F 4) (A 4) (B 4) (D 4)) ++ ((uX3 cs (Q 4 0) (Q 5) (F 5) (A 5) (B 5) (D 5)) ++ ((uX5 cs (Q 0 6) (Q 6) (F 6) (A 6) (B 6) (D 6)) ++ ((uX5 cs (Q 0 7) (Q 7) (F 7) (A 7) (B 7) (D 7)) ++ ((uX0 cs (Q 0 8) (Q 8) (F 8) (A 8) (B 8) (D 8)) ++ ((uX1 cs (Q 0 9) (Q 9) (F 9) (A 9) (B 9) (D 9)) ++ ((uX4 cs (Q 0 10) (Q 10) (F 10) (A 10) (B 10) (D 10)) ++ ((uX2 cs (Q 0 11) (Q 11) (F 11) (A 11) (B 11) (D 11)) ++ ((uX7 cs (Q 0 20) (Q 12) (F 12) (A 12) (B 12) (D 12)) ++ ((uX7 cs (Q 0 23) (Q 15) (F 15) (A 15) (B 15) (D 15)) ++ ((uX8 cs (Q 0 30) (Q 16) (F 16) (A 16) (B 16) (D 16)) ++ ((uX3 cs (Q 16 0) (Q 17) (F 17) (A 17) (B 17) (D 17)) ++ ((uX8 cs (Q 0 31) (Q 18) (F 18) (A 18) (B 18) (D 18)) ++ ((uX3 cs (Q 18 0) (Q 19) (F 19) (A 19) (B 19) (D 19)) ++ ((uX8 cs (Q 0 32) (Q 20) (F 20) (A 20) (B 20) (D 20)) ++ ((uX3 cs (Q 20 0) (Q 21) (F 21) (A 21) (B 21) (D 21)) ++ ((uX5 cs (Q 8 10) (Q 22) (F 22) (A 22) (B 22) (D 22)) ++ ((uX5 cs (Q 8 11) (Q 23) (F 23) (A 23) (B 23) (D 23)) ++ ((uX5 cs (Q 8 12) (Q 24) (F 24) (A 24) (B 24) (D 24)) ++ ((uX5 cs (Q 8 13) (Q 25) (F 25) (A 25) (B 25) (D 25)) ++ ((uX5 cs (Q 8 14) (Q 26) (F 26) (A 26) (B 26) (D 26)) ++ (mS cs h2 q2 MF MA MD MB)))))))))))))))))))))))))) (runVD (As := [.int 2, .int a2, .int 1, .int a4, .int a5]) (rest := []) ⟨hx, hb, hml, hown, ht⟩ (sX10_paste_2_1 l G cs h1 (Q 0) (F 0) (A 0) (B 0) (D 0) hX.1 (Q 14) (F 14) (A 14) (B 14) (D 14) hX.2.2.2.2.2.2.2.2.2.2.2.2.2.2.1 (Q 13) (F 13) (A 13) (B 13) (D 13) hX.2.2.2.2.2.2.2.2.2.2.2.2.2.1 a2 a4 a5) okV_RL_276 ⟨(Nat.le_of_ble_eq_true rfl), (Nat.le_of_ble_eq_true rfl)⟩ hK hP hD [0, 1, 2, 52, 53, 50, 51] rfl (by decide +kernel) rfl 0 rfl rfl hl.1 rfl (Nat.le_of_ble_eq_true rfl) dL_law_2119 ⟨(Nat.le_of_ble_eq_true rfl), (Nat.le_of_ble_eq_true rfl)⟩) hP hD hS (fun _ h => h) [0, 1, 2, 52, 53, 50, 51] [3, 4, 5, 6, 7, 8, 9, 10, 11, 12, 13, 14, 15, 16, 17, 18, 19, 20, 21, 22, 23, 24, 25, 26, 27, 28, 29, 30, 31, 32, 33, 34, 35, 36, 37, 38, 39, 40, 41, 42, 43, 44, 45, 46, 47, 48, 49, 54, 55, 56, 57, 58, 59, 60, 61, 62, 63, 64, 65, 66, 67, 68, 69, 70, 71, 72, 73, 74, 75, 76, 77, 78, 79, 80, 81, 82, 83, 84, 85, 86, 87, 88, 89, 90, 91, 92, 93, 94, 95, 96, 97, 98, 99, 100, 101, 102, 103, 104, 105, 106, 107, 108, 109, 110, 111, 112, 113, 114, 115, 116, 117, 118, 119, 120] rfl rfl (by decide +kernel) (by decide +kernel) (fun r9 u H locs hu hP hD hS => ?_)
      obtain ⟨y201, rfl⟩ : ∃ z, z = u := ⟨_, rfl⟩
      obtain ⟨r200, rfl⟩ : ∃ z, z = r9 := ⟨_, rfl⟩
      have hr200 := hu
      have kk202 : (2 : Int32).toInt = 2 := by decide
      have kk203 : (1 : Int32).toInt = 1 := by decide
      have hr200 : (((F 14 1).toInt = 0 ∨ (F 13 1).toInt = 0) ∧ r200.toInt = -6) ∨ (¬ (F 14 1).toInt = 0 ∧ ¬ (F 13 1).toInt = 0 ∧ ¬ (F 14 2).toInt = (F 13 2).toInt ∧ r200.toInt = -8) ∨ (¬ (F 14 1).toInt = 0 ∧ ¬ (F 13 1).toInt = 0 ∧ (F 14 2).toInt = (F 13 2).toInt ∧ (a2.toInt < 0 ∨ a4.toInt < 0 ∨ a5.toInt < 0 ∨ (F 14 3).toInt < a2.toInt + a5.toInt ∨ (F 13 3).toInt < a4.toInt + a5.toInt) ∧ r200.toInt = -7) ∨ (¬ (F 14 1).toInt = 0 ∧ ¬ (F 13 1).toInt = 0 ∧ (F 14 2).toInt = (F 13 2).toInt ∧ ¬ (a2.toInt < 0 ∨ a4.toInt < 0 ∨ a5.toInt < 0 ∨ (F 14 3).toInt < a2.toInt + a5.toInt ∨ (F 13 3).toInt < a4.toInt + a5.toInt) ∧ r200.toInt = 0) := hr200
      have hP : va_P G vwCl (LW cs h1 Q h2 q2 F A (vA B 13 (vA (B 13) 0 y201)) D MF MA MD MB) H := hP.sub [114, 115, 116, 0, 1, 2, 3, 4, 5, 6, 7, 8, 9, 10, 11, 12, 13, 14, 15, 16, 17, 18, 19, 20, 21, 22, 23, 24, 25, 26, 27, 28, 29, 30, 31, 32, 33, 34, 35, 36, 37, 38, 39, 40, 41, 42, 43, 44, 45, 46, 119, 120, 117, 118, 47, 48, 49, 50, 51, 52, 53, 54, 55, 56, 57, 58, 59, 60, 61, 62, 63, 64, 65, 66, 67, 68, 69, 70, 71, 72, 73, 74, 75, 76, 77, 78, 79, 80, 81, 82, 83, 84, 85, 86, 87, 88, 89, 90, 91, 92, 93, 94, 95, 96, 97, 98, 99, 100, 101, 102, 103, 104, 105, 106, 107, 108, 109, 110, 111, 112, 113] rfl
      have hD : va_D (fun q : Nat => s.heap.size ≤ q) (LW cs h1 Q h2 q2 F A (vA B 13 (vA (B 13) 0 y201)) D MF MA MD MB) := hD.sub [114, 115, 116, 0, 1, 2, 3, 4, 5, 6, 7, 8, 9, 10, 11, 12, 13, 14, 15, 16, 17, 18, 19, 20, 21, 22, 23, 24, 25, 26, 27, 28, 29, 30, 31, 32, 33, 34, 35, 36, 37, 38, 39, 40, 41, 42, 43, 44, 45, 46, 119, 120, 117, 118, 47, 48, 49, 50, 51, 52, 53, 54, 55, 56, 57, 58, 59, 60, 61, 62, 63, 64, 65, 66, 67, 68, 69, 70, 71, 72, 73, 74, 75, 76, 77, 78, 79, 80, 81, 82, 83, 84, 85, 86, 87, 88, 89, 90, 91, 92, 93, 94, 95, 96, 97, 98, 99, 100, 101, 102, 103, 104, 105, 106, 107, 108, 109, 110, 111, 112, 113] (by decide +kernel) rfl
      refine lv_pop hx hb dL_law_2122 rfl ?_
      refine lv_aload_n hx hb dL_law_2123 rfl (lv_at hl 1 rfl) ?_
      refine lv_aload_n hx hb dL_law_2124 rfl (lv_at hl 3 rfl) ?_
      refine lv_iload_n hx hb dL_law_2125 rfl (lv_at hl 0 rfl) ?_
      refine lv_iconst (v := 1) hx hb dL_law_2126 (by decide) ?_
      refine lv_iadd hx hb dL_law_2127 ?_
      refine va_sld hx hb hXs hbl hbA hS (inK t1 (by omega) (by omega)) dL_law_2128 ?_
      refine W.eq (g2 := F0 m 2129 ls [.int 2, .ref h2]) (by rw [← ea1]) ?_
      refine lv_aload_n hx hb dL_law_2129 rfl (lv_at hl 3 rfl) ?_
      refine lv_iload_n hx hb dL_law_2130 rfl (lv_at hl 0 rfl) ?_
      refine lv_iconst (v := 2) hx hb dL_law_2131 (by decide) ?_
      refine lv_iadd hx hb dL_law_2132 ?_
      refine va_sld hx hb hXs hbl hbA hS (inK t2 (by omega) (by omega)) dL_law_2133 ?_
      refine W.eq (g2 := F0 m 2134 ls [.int a2, .int 2, .ref h2]) (by rw [← ea2]) ?_
      refine lv_aload_n hx hb dL_law_2134 rfl (lv_at hl 3 rfl) ?_
      refine lv_iload_n hx hb dL_law_2135 rfl (lv_at hl 0 rfl) ?_
      refine lv_iconst (v := 3) hx hb dL_law_2136 (by decide) ?_
      refine lv_iadd hx hb dL_law_2137 ?_
      refine va_sld hx hb hXs hbl hbA hS (inK t3 (by omega) (by omega)) dL_law_2138 ?_
      refine W.eq (g2 := F0 m 2139 ls [.int 1, .int a2, .int 2, .ref h2]) (by rw [← ea3]) ?_
      refine lv_aload_n hx hb dL_law_2139 rfl (lv_at hl 3 rfl) ?_
      refine lv_iload_n hx hb dL_law_2140 rfl (lv_at hl 0 rfl) ?_
      refine lv_iconst (v := 4) hx hb dL_law_2141 (by decide) ?_
      refine lv_iadd hx hb dL_law_2142 ?_
      refine va_sld hx hb hXs hbl hbA hS (inK t4 (by omega) (by omega)) dL_law_2143 ?_
      refine W.eq (g2 := F0 m 2144 ls [.int a4, .int 1, .int a2, .int 2, .ref h2]) (by rw [← ea4]) ?_
      refine lv_aload_n hx hb dL_law_2144 rfl (lv_at hl 3 rfl) ?_
      refine lv_iload_n hx hb dL_law_2145 rfl (lv_at hl 0 rfl) ?_
      refine lv_iconst (v := 5) hx hb dL_law_2146 (by decide) ?_
      refine lv_iadd hx hb dL_law_2147 ?_
      refine va_sld hx hb hXs hbl hbA hS (inK t5 (by omega) (by omega)) dL_law_2148 ?_
      refine W.eq (g2 := F0 m 2149 ls [.int a5, .int a4, .int 1, .int a2, .int 2, .ref h2]) (by rw [← ea5]) ?_
      refine behDi (wr := (XLW cs h1 Q F A (vA B 13 (vA (B 13) 0 y201)) D)) (runVD (As := [.int 2, .int a2, .int 1, .int a4, .int a5]) (rest := []) ⟨hx, hb, hml, hown, ht⟩ (sX11_paste l G cs h2 q2 MF MA MD MB hM.1 2 a2 1 a4 a5) okV_RL_279 ⟨(Nat.le_of_ble_eq_true rfl), (Nat.le_of_ble_eq_true rfl)⟩ hK hP hD [101, 102, 103, 104, 105, 106, 107, 108, 109, 110, 111, 112, 113, 114, 115, 116, 117, 118, 119, 120] rfl (by decide +kernel) rfl 101 rfl rfl hl.1 rfl (Nat.le_of_ble_eq_true rfl) dL_law_2149 ⟨(Nat.le_of_ble_eq_true rfl), (Nat.le_of_ble_eq_true rfl)⟩) hP hD hS (fun _ h => h) [101, 102, 103, 104, 105, 106, 107, 108, 109, 110, 111, 112, 113, 114, 115, 116, 117, 118, 119, 120] [0, 1, 2, 3, 4, 5, 6, 7, 8, 9, 10, 11, 12, 13, 14, 15, 16, 17, 18, 19, 20, 21, 22, 23, 24, 25, 26, 27, 28, 29, 30, 31, 32, 33, 34, 35, 36, 37, 38, 39, 40, 41, 42, 43, 44, 45, 46, 47, 48, 49, 50, 51, 52, 53, 54, 55, 56, 57, 58, 59, 60, 61, 62, 63, 64, 65, 66, 67, 68, 69, 70, 71, 72, 73, 74, 75, 76, 77, 78, 79, 80, 81, 82, 83, 84, 85, 86, 87, 88, 89, 90, 91, 92, 93, 94, 95, 96, 97, 98, 99, 100] rfl rfl (by decide +kernel) (by decide +kernel) (fun r9 u H locs hu hP hD hS => ?_)
      obtain ⟨y205, y206⟩ := u
      obtain ⟨r204, rfl⟩ : ∃ z, z = r9 := ⟨_, rfl⟩
      have hr204 := hu
      have kk207 : (2 : Int32).toInt = 2 := by decide
      have kk208 : (1 : Int32).toInt = 1 := by decide
      have hr204 : (r204.toInt = -2 ∧ ((2 : Int32).toInt < 0 ∨ 3 < (2 : Int32).toInt ∨ (1 : Int32).toInt < 0 ∨ 3 < (1 : Int32).toInt)) ∨ ((0 ≤ (2 : Int32).toInt ∧ (2 : Int32).toInt ≤ 3) ∧ (0 ≤ (1 : Int32).toInt ∧ (1 : Int32).toInt ≤ 3) ∧ (((MA 31) (2 : Int32).toNatClampNeg).toInt = -1 ∨ ((MA 31) (1 : Int32).toNatClampNeg).toInt = -1) ∧ r204.toInt = -6) ∨ ((0 ≤ (2 : Int32).toInt ∧ (2 : Int32).toInt ≤ 3) ∧ (0 ≤ (1 : Int32).toInt ∧ (1 : Int32).toInt ≤ 3) ∧ ¬ ((MA 31) (2 : Int32).toNatClampNeg).toInt = -1 ∧ ¬ ((MA 31) (1 : Int32).toNatClampNeg).toInt = -1 ∧ ¬ ((MA 32) (2 : Int32).toNatClampNeg).toInt = ((MA 32) (1 : Int32).toNatClampNeg).toInt ∧ r204.toInt = -8) ∨ ((0 ≤ (2 : Int32).toInt ∧ (2 : Int32).toInt ≤ 3) ∧ (0 ≤ (1 : Int32).toInt ∧ (1 : Int32).toInt ≤ 3) ∧ ¬ ((MA 31) (2 : Int32).toNatClampNeg).toInt = -1 ∧ ¬ ((MA 31) (1 : Int32).toNatClampNeg).toInt = -1 ∧ ((MA 32) (2 : Int32).toNatClampNeg).toInt = ((MA 32) (1 : Int32).toNatClampNeg).toInt ∧ (a2.toInt < 0 ∨ a4.toInt < 0 ∨ a5.toInt < 0 ∨ ((MA 31) (2 : Int32).toNatClampNeg).toInt < a2.toInt + a5.toInt ∨ ((MA 31) (1 : Int32).toNatClampNeg).toInt < a4.toInt + a5.toInt) ∧ r204.toInt = -7) ∨ ((0 ≤ (2 : Int32).toInt ∧ (2 : Int32).toInt ≤ 3) ∧ (0 ≤ (1 : Int32).toInt ∧ (1 : Int32).toInt ≤ 3) ∧ ¬ ((MA 31) (2 : Int32).toNatClampNeg).toInt = -1 ∧ ¬ ((MA 31) (1 : Int32).toNatClampNeg).toInt = -1 ∧ ((MA 32) (2 : Int32).toNatClampNeg).toInt = ((MA 32) (1 : Int32).toNatClampNeg).toInt ∧ ¬ (a2.toInt < 0 ∨ a4.toInt < 0 ∨ a5.toInt < 0 ∨ ((MA 31) (2 : Int32).toNatClampNeg).toInt < a2.toInt + a5.toInt ∨ ((MA 31) (1 : Int32).toNatClampNeg).toInt < a4.toInt + a5.toInt) ∧ r204.toInt = 0) := hr204
      have hP : va_P G vwCl (LW cs h1 Q h2 q2 F A (vA B 13 (vA (B 13) 0 y201)) D MF MA MD (vA (vA MB 33 y205) 34 y206)) H := hP
      have hD : va_D (fun q : Nat => s.heap.size ≤ q) (LW cs h1 Q h2 q2 F A (vA B 13 (vA (B 13) 0 y201)) D MF MA MD (vA (vA MB 33 y205) 34 y206)) := hD
      have n31_1 : (MA 31 (1 : Int32).toNatClampNeg).toInt = (MA 31 1).toInt := congrArg (fun z => (MA 31 z).toInt) (show (1 : Int32).toNatClampNeg = 1 by decide)
      have n32_1 : (MA 32 (1 : Int32).toNatClampNeg).toInt = (MA 32 1).toInt := congrArg (fun z => (MA 32 z).toInt) (show (1 : Int32).toNatClampNeg = 1 by decide)
      have nsr_1 : ((F 13 1).toInt = 0 ∧ (MA 31 1).toInt = -1) ∨ (¬ (F 13 1).toInt = 0 ∧ (MA 31 1).toInt = (F 13 3).toInt ∧ 0 ≤ (F 13 3).toInt ∧ (MA 32 1).toInt = (F 13 2).toInt) := hR.2.2.2.2.1
      have n31_2 : (MA 31 (2 : Int32).toNatClampNeg).toInt = (MA 31 2).toInt := congrArg (fun z => (MA 31 z).toInt) (show (2 : Int32).toNatClampNeg = 2 by decide)
      have n32_2 : (MA 32 (2 : Int32).toNatClampNeg).toInt = (MA 32 2).toInt := congrArg (fun z => (MA 32 z).toInt) (show (2 : Int32).toNatClampNeg = 2 by decide)
      have nsr_2 : ((F 14 1).toInt = 0 ∧ (MA 31 2).toInt = -1) ∨ (¬ (F 14 1).toInt = 0 ∧ (MA 31 2).toInt = (F 14 3).toInt ∧ 0 ≤ (F 14 3).toInt ∧ (MA 32 2).toInt = (F 14 2).toInt) := hR.2.2.2.2.2.1
      refine lv_pop hx hb dL_law_2152 rfl ?_
      refine lv_goto (tgt := 2156) hx hb dL_law_2153 (by decide) ?_
      exact kk F A (vA B 13 (vA (B 13) 0 y201)) D MF MA MD (vA (vA MB 33 y205) 34 y206) H locs ls ⟨hX.1, hX.2.1, hX.2.2.1, hX.2.2.2.1, hX.2.2.2.2.1, hX.2.2.2.2.2.1, hX.2.2.2.2.2.2.1, hX.2.2.2.2.2.2.2.1, hX.2.2.2.2.2.2.2.2.1, hX.2.2.2.2.2.2.2.2.2.1, hX.2.2.2.2.2.2.2.2.2.2.1, hX.2.2.2.2.2.2.2.2.2.2.2.1, hX.2.2.2.2.2.2.2.2.2.2.2.2.1, hX.2.2.2.2.2.2.2.2.2.2.2.2.2.1, hX.2.2.2.2.2.2.2.2.2.2.2.2.2.2.1, hX.2.2.2.2.2.2.2.2.2.2.2.2.2.2.2.1, hX.2.2.2.2.2.2.2.2.2.2.2.2.2.2.2.2.1, hX.2.2.2.2.2.2.2.2.2.2.2.2.2.2.2.2.2.1, hX.2.2.2.2.2.2.2.2.2.2.2.2.2.2.2.2.2.2.1, hX.2.2.2.2.2.2.2.2.2.2.2.2.2.2.2.2.2.2.2.1, hX.2.2.2.2.2.2.2.2.2.2.2.2.2.2.2.2.2.2.2.2.1, hX.2.2.2.2.2.2.2.2.2.2.2.2.2.2.2.2.2.2.2.2.2.1, hX.2.2.2.2.2.2.2.2.2.2.2.2.2.2.2.2.2.2.2.2.2.2.1, hX.2.2.2.2.2.2.2.2.2.2.2.2.2.2.2.2.2.2.2.2.2.2.2.1, hX.2.2.2.2.2.2.2.2.2.2.2.2.2.2.2.2.2.2.2.2.2.2.2.2.1, hX.2.2.2.2.2.2.2.2.2.2.2.2.2.2.2.2.2.2.2.2.2.2.2.2.2.1, hX.2.2.2.2.2.2.2.2.2.2.2.2.2.2.2.2.2.2.2.2.2.2.2.2.2.2⟩ ⟨hM.1, hM.2.1, hM.2.2⟩ hR hP hD hS hl
    · refine behDi (wr := ((uX6 cs (Q 0 0) (fun _ => Q 0 1) (F 1) (A 1) (B 1) (D 1)) ++ ((uX9 cs (Q 0 1) (Q 2) (F 2) (A 2) (B 2) (D 2)) ++ ((uX3 cs (Q 0 2) (Q 3) (F 3) (A 3) (B 3) (D 3)) ++ ((uX8 cs (Q 0 3) (Q 4) (F 4) (A 4) (B 4) (D 4)) ++ ((uX3 cs (Q 4 0) (Q 5) (F 5) (A 5) (B 5) (D 5)) ++ ((uX5 cs (Q 0 6) (Q 6) (F 6) (A 6) (B 6) (D 6)) ++ ((uX5 cs (Q 0 7) (Q 7) (F 7) (A 7) (B 7) (D 7)) ++ ((uX0 cs (Q 0 8) (Q 8) (F 8) (A 8) (B 8) (D 8)) ++ ((uX1 cs (Q 0 9) (Q 9) (F 9) (A 9) (B 9) (D 9)) ++ ((uX4 cs (Q 0 10) (Q 10) (F 10) (A 10) (B 10) (D 10)) ++ ((uX2 cs (Q 0 11) (Q 11) (F 11) (A 11) (B 11) (D 11)) ++ ((uX7 cs (Q 0 20) (Q 12) (F 12) (A 12) (B 12) (D 12)) ++ ((uX7 cs (Q 0 21) (Q 13) (F 13) (A 13) (B 13) (D 13)) ++ ((uX7 cs (Q 0 23) (Q 15) (F 15) (A 15) (B 15) (D 15)) ++ ((uX8 cs (Q 0 30) (Q 16) (F 16) (A 16) (B 16) (D 16)) ++ ((uX3 cs (Q 16 0) (Q 17) (F 17) (A 17) (B 17) (D 17)) ++ ((uX8 cs (Q 0 31) (Q 18) (F 18) (A 18) (B 18) (D 18)) ++ ((uX3 cs (Q 18 0) (Q 19) (F 19) (A 19) (B 19) (D 19)) ++ ((uX8 cs (Q 0 32) (Q 20) (F 20) (A 20) (B 20) (D 20)) ++ ((uX3 cs (Q 20 0) (Q 21) (F 21) (A 21) (B 21) (D 21)) ++ ((uX5 cs (Q 8 10) (Q 22) (F 22) (A 22) (B 22) (D 22)) ++ ((uX5 cs (Q 8 11) (Q 23) (F 23) (A 23) (B 23) (D 23)) ++ ((uX5 cs (Q 8 12) (Q 24) (F 24) (A 24) (B 24) (D 24)) ++ ((uX5 cs (Q 8 13) (Q 25) (F 25) (A 25) (B 25) (D 25)) ++ ((uX5 cs (Q 8 14) (Q 26) (F 26) (A 26) (B 26) (D 26)) ++ (mS cs h2 q2 MF MA MD MB))))))))))))))))))))))))))) (runVD (As := [.int 2, .int a2, .int 2, .int a4, .int a5]) (rest := []) ⟨hx, hb, hml, hown, ht⟩ (sX10_paste_2_2 l G cs h1 (Q 0) (F 0) (A 0) (B 0) (D 0) hX.1 (Q 14) (F 14) (A 14) (B 14) (D 14) hX.2.2.2.2.2.2.2.2.2.2.2.2.2.2.1 a2 a4 a5) okV_RL_276 ⟨(Nat.le_of_ble_eq_true rfl), (Nat.le_of_ble_eq_true rfl)⟩ hK hP hD [0, 1, 2, 52, 53] rfl (by decide +kernel) rfl 0 rfl rfl hl.1 rfl (Nat.le_of_ble_eq_true rfl) dL_law_2119 ⟨(Nat.le_of_ble_eq_true rfl), (Nat.le_of_ble_eq_true rfl)⟩) hP hD hS (fun _ h => h) [0, 1, 2, 52, 53] [3, 4, 5, 6, 7, 8, 9, 10, 11, 12, 13, 14, 15, 16, 17, 18, 19, 20, 21, 22, 23, 24, 25, 26, 27, 28, 29, 30, 31, 32, 33, 34, 35, 36, 37, 38, 39, 40, 41, 42, 43, 44, 45, 46, 47, 48, 49, 50, 51, 54, 55, 56, 57, 58, 59, 60, 61, 62, 63, 64, 65, 66, 67, 68, 69, 70, 71, 72, 73, 74, 75, 76, 77, 78, 79, 80, 81, 82, 83, 84, 85, 86, 87, 88, 89, 90, 91, 92, 93, 94, 95, 96, 97, 98, 99, 100, 101, 102, 103, 104, 105, 106, 107, 108, 109, 110, 111, 112, 113, 114, 115, 116, 117, 118, 119, 120] rfl rfl (by decide +kernel) (by decide +kernel) (fun r9 u H locs hu hP hD hS => ?_)
      obtain ⟨y210, rfl⟩ : ∃ z, z = u := ⟨_, rfl⟩
      obtain ⟨r209, rfl⟩ : ∃ z, z = r9 := ⟨_, rfl⟩
      have hr209 := hu
      have kk211 : (2 : Int32).toInt = 2 := by decide
      have kk212 : (2 : Int32).toInt = 2 := by decide
      have hr209 : (((F 14 1).toInt = 0 ∨ (F 14 1).toInt = 0) ∧ r209.toInt = -6) ∨ (¬ (F 14 1).toInt = 0 ∧ ¬ (F 14 1).toInt = 0 ∧ ¬ (F 14 2).toInt = (F 14 2).toInt ∧ r209.toInt = -8) ∨ (¬ (F 14 1).toInt = 0 ∧ ¬ (F 14 1).toInt = 0 ∧ (F 14 2).toInt = (F 14 2).toInt ∧ (a2.toInt < 0 ∨ a4.toInt < 0 ∨ a5.toInt < 0 ∨ (F 14 3).toInt < a2.toInt + a5.toInt ∨ (F 14 3).toInt < a4.toInt + a5.toInt) ∧ r209.toInt = -7) ∨ (¬ (F 14 1).toInt = 0 ∧ ¬ (F 14 1).toInt = 0 ∧ (F 14 2).toInt = (F 14 2).toInt ∧ ¬ (a2.toInt < 0 ∨ a4.toInt < 0 ∨ a5.toInt < 0 ∨ (F 14 3).toInt < a2.toInt + a5.toInt ∨ (F 14 3).toInt < a4.toInt + a5.toInt) ∧ r209.toInt = 0) := hr209
      have hP : va_P G vwCl (LW cs h1 Q h2 q2 F A (vA B 14 (vA (B 14) 0 y210)) D MF MA MD MB) H := hP.sub [116, 117, 118, 0, 1, 2, 3, 4, 5, 6, 7, 8, 9, 10, 11, 12, 13, 14, 15, 16, 17, 18, 19, 20, 21, 22, 23, 24, 25, 26, 27, 28, 29, 30, 31, 32, 33, 34, 35, 36, 37, 38, 39, 40, 41, 42, 43, 44, 45, 46, 47, 48, 119, 120, 49, 50, 51, 52, 53, 54, 55, 56, 57, 58, 59, 60, 61, 62, 63, 64, 65, 66, 67, 68, 69, 70, 71, 72, 73, 74, 75, 76, 77, 78, 79, 80, 81, 82, 83, 84, 85, 86, 87, 88, 89, 90, 91, 92, 93, 94, 95, 96, 97, 98, 99, 100, 101, 102, 103, 104, 105, 106, 107, 108, 109, 110, 111, 112, 113, 114, 115] rfl
      have hD : va_D (fun q : Nat => s.heap.size ≤ q) (LW cs h1 Q h2 q2 F A (vA B 14 (vA (B 14) 0 y210)) D MF MA MD MB) := hD.sub [116, 117, 118, 0, 1, 2, 3, 4, 5, 6, 7, 8, 9, 10, 11, 12, 13, 14, 15, 16, 17, 18, 19, 20, 21, 22, 23, 24, 25, 26, 27, 28, 29, 30, 31, 32, 33, 34, 35, 36, 37, 38, 39, 40, 41, 42, 43, 44, 45, 46, 47, 48, 119, 120, 49, 50, 51, 52, 53, 54, 55, 56, 57, 58, 59, 60, 61, 62, 63, 64, 65, 66, 67, 68, 69, 70, 71, 72, 73, 74, 75, 76, 77, 78, 79, 80, 81, 82, 83, 84, 85, 86, 87, 88, 89, 90, 91, 92, 93, 94, 95, 96, 97, 98, 99, 100, 101, 102, 103, 104, 105, 106, 107, 108, 109, 110, 111, 112, 113, 114, 115] (by decide +kernel) rfl
      refine lv_pop hx hb dL_law_2122 rfl ?_
      refine lv_aload_n hx hb dL_law_2123 rfl (lv_at hl 1 rfl) ?_
      refine lv_aload_n hx hb dL_law_2124 rfl (lv_at hl 3 rfl) ?_
      refine lv_iload_n hx hb dL_law_2125 rfl (lv_at hl 0 rfl) ?_
      refine lv_iconst (v := 1) hx hb dL_law_2126 (by decide) ?_
      refine lv_iadd hx hb dL_law_2127 ?_
      refine va_sld hx hb hXs hbl hbA hS (inK t1 (by omega) (by omega)) dL_law_2128 ?_
      refine W.eq (g2 := F0 m 2129 ls [.int 2, .ref h2]) (by rw [← ea1]) ?_
      refine lv_aload_n hx hb dL_law_2129 rfl (lv_at hl 3 rfl) ?_
      refine lv_iload_n hx hb dL_law_2130 rfl (lv_at hl 0 rfl) ?_
      refine lv_iconst (v := 2) hx hb dL_law_2131 (by decide) ?_
      refine lv_iadd hx hb dL_law_2132 ?_
      refine va_sld hx hb hXs hbl hbA hS (inK t2 (by omega) (by omega)) dL_law_2133 ?_
      refine W.eq (g2 := F0 m 2134 ls [.int a2, .int 2, .ref h2]) (by rw [← ea2]) ?_
      refine lv_aload_n hx hb dL_law_2134 rfl (lv_at hl 3 rfl) ?_
      refine lv_iload_n hx hb dL_law_2135 rfl (lv_at hl 0 rfl) ?_
      refine lv_iconst (v := 3) hx hb dL_law_2136 (by decide) ?_
      refine lv_iadd hx hb dL_law_2137 ?_
      refine va_sld hx hb hXs hbl hbA hS (inK t3 (by omega) (by omega)) dL_law_2138 ?_
      refine W.eq (g2 := F0 m 2139 ls [.int 2, .int a2, .int 2, .ref h2]) (by rw [← ea3]) ?_
      refine lv_aload_n hx hb dL_law_2139 rfl (lv_at hl 3 rfl) ?_
      refine lv_iload_n hx hb dL_law_2140 rfl (lv_at hl 0 rfl) ?_
      refine lv_iconst (v := 4) hx hb dL_law_2141 (by decide) ?_
      refine lv_iadd hx hb dL_law_2142 ?_
      refine va_sld hx hb hXs hbl hbA hS (inK t4 (by omega) (by omega)) dL_law_2143 ?_
      refine W.eq (g2 := F0 m 2144 ls [.int a4, .int 2, .int a2, .int 2, .ref h2]) (by rw [← ea4]) ?_
      refine lv_aload_n hx hb dL_law_2144 rfl (lv_at hl 3 rfl) ?_
      refine lv_iload_n hx hb dL_law_2145 rfl (lv_at hl 0 rfl) ?_
      refine lv_iconst (v := 5) hx hb dL_law_2146 (by decide) ?_
      refine lv_iadd hx hb dL_law_2147 ?_
      refine va_sld hx hb hXs hbl hbA hS (inK t5 (by omega) (by omega)) dL_law_2148 ?_
      refine W.eq (g2 := F0 m 2149 ls [.int a5, .int a4, .int 2, .int a2, .int 2, .ref h2]) (by rw [← ea5]) ?_
      refine behDi (wr := (XLW cs h1 Q F A (vA B 14 (vA (B 14) 0 y210)) D)) (runVD (As := [.int 2, .int a2, .int 2, .int a4, .int a5]) (rest := []) ⟨hx, hb, hml, hown, ht⟩ (sX11_paste l G cs h2 q2 MF MA MD MB hM.1 2 a2 2 a4 a5) okV_RL_279 ⟨(Nat.le_of_ble_eq_true rfl), (Nat.le_of_ble_eq_true rfl)⟩ hK hP hD [101, 102, 103, 104, 105, 106, 107, 108, 109, 110, 111, 112, 113, 114, 115, 116, 117, 118, 119, 120] rfl (by decide +kernel) rfl 101 rfl rfl hl.1 rfl (Nat.le_of_ble_eq_true rfl) dL_law_2149 ⟨(Nat.le_of_ble_eq_true rfl), (Nat.le_of_ble_eq_true rfl)⟩) hP hD hS (fun _ h => h) [101, 102, 103, 104, 105, 106, 107, 108, 109, 110, 111, 112, 113, 114, 115, 116, 117, 118, 119, 120] [0, 1, 2, 3, 4, 5, 6, 7, 8, 9, 10, 11, 12, 13, 14, 15, 16, 17, 18, 19, 20, 21, 22, 23, 24, 25, 26, 27, 28, 29, 30, 31, 32, 33, 34, 35, 36, 37, 38, 39, 40, 41, 42, 43, 44, 45, 46, 47, 48, 49, 50, 51, 52, 53, 54, 55, 56, 57, 58, 59, 60, 61, 62, 63, 64, 65, 66, 67, 68, 69, 70, 71, 72, 73, 74, 75, 76, 77, 78, 79, 80, 81, 82, 83, 84, 85, 86, 87, 88, 89, 90, 91, 92, 93, 94, 95, 96, 97, 98, 99, 100] rfl rfl (by decide +kernel) (by decide +kernel) (fun r9 u H locs hu hP hD hS => ?_)
      obtain ⟨y214, y215⟩ := u
      obtain ⟨r213, rfl⟩ : ∃ z, z = r9 := ⟨_, rfl⟩
      have hr213 := hu
      have kk216 : (2 : Int32).toInt = 2 := by decide
      have kk217 : (2 : Int32).toInt = 2 := by decide
      have hr213 : (r213.toInt = -2 ∧ ((2 : Int32).toInt < 0 ∨ 3 < (2 : Int32).toInt ∨ (2 : Int32).toInt < 0 ∨ 3 < (2 : Int32).toInt)) ∨ ((0 ≤ (2 : Int32).toInt ∧ (2 : Int32).toInt ≤ 3) ∧ (0 ≤ (2 : Int32).toInt ∧ (2 : Int32).toInt ≤ 3) ∧ (((MA 31) (2 : Int32).toNatClampNeg).toInt = -1 ∨ ((MA 31) (2 : Int32).toNatClampNeg).toInt = -1) ∧ r213.toInt = -6) ∨ ((0 ≤ (2 : Int32).toInt ∧ (2 : Int32).toInt ≤ 3) ∧ (0 ≤ (2 : Int32).toInt ∧ (2 : Int32).toInt ≤ 3) ∧ ¬ ((MA 31) (2 : Int32).toNatClampNeg).toInt = -1 ∧ ¬ ((MA 31) (2 : Int32).toNatClampNeg).toInt = -1 ∧ ¬ ((MA 32) (2 : Int32).toNatClampNeg).toInt = ((MA 32) (2 : Int32).toNatClampNeg).toInt ∧ r213.toInt = -8) ∨ ((0 ≤ (2 : Int32).toInt ∧ (2 : Int32).toInt ≤ 3) ∧ (0 ≤ (2 : Int32).toInt ∧ (2 : Int32).toInt ≤ 3) ∧ ¬ ((MA 31) (2 : Int32).toNatClampNeg).toInt = -1 ∧ ¬ ((MA 31) (2 : Int32).toNatClampNeg).toInt = -1 ∧ ((MA 32) (2 : Int32).toNatClampNeg).toInt = ((MA 32) (2 : Int32).toNatClampNeg).toInt ∧ (a2.toInt < 0 ∨ a4.toInt < 0 ∨ a5.toInt < 0 ∨ ((MA 31) (2 : Int32).toNatClampNeg).toInt < a2.toInt + a5.toInt ∨ ((MA 31) (2 : Int32).toNatClampNeg).toInt < a4.toInt + a5.toInt) ∧ r213.toInt = -7) ∨ ((0 ≤ (2 : Int32).toInt ∧ (2 : Int32).toInt ≤ 3) ∧ (0 ≤ (2 : Int32).toInt ∧ (2 : Int32).toInt ≤ 3) ∧ ¬ ((MA 31) (2 : Int32).toNatClampNeg).toInt = -1 ∧ ¬ ((MA 31) (2 : Int32).toNatClampNeg).toInt = -1 ∧ ((MA 32) (2 : Int32).toNatClampNeg).toInt = ((MA 32) (2 : Int32).toNatClampNeg).toInt ∧ ¬ (a2.toInt < 0 ∨ a4.toInt < 0 ∨ a5.toInt < 0 ∨ ((MA 31) (2 : Int32).toNatClampNeg).toInt < a2.toInt + a5.toInt ∨ ((MA 31) (2 : Int32).toNatClampNeg).toInt < a4.toInt + a5.toInt) ∧ r213.toInt = 0) := hr213
      have hP : va_P G vwCl (LW cs h1 Q h2 q2 F A (vA B 14 (vA (B 14) 0 y210)) D MF MA MD (vA (vA MB 33 y214) 34 y215)) H := hP
      have hD : va_D (fun q : Nat => s.heap.size ≤ q) (LW cs h1 Q h2 q2 F A (vA B 14 (vA (B 14) 0 y210)) D MF MA MD (vA (vA MB 33 y214) 34 y215)) := hD
      have n31_2 : (MA 31 (2 : Int32).toNatClampNeg).toInt = (MA 31 2).toInt := congrArg (fun z => (MA 31 z).toInt) (show (2 : Int32).toNatClampNeg = 2 by decide)
      have n32_2 : (MA 32 (2 : Int32).toNatClampNeg).toInt = (MA 32 2).toInt := congrArg (fun z => (MA 32 z).toInt) (show (2 : Int32).toNatClampNeg = 2 by decide)
      have nsr_2 : ((F 14 1).toInt = 0 ∧ (MA 31 2).toInt = -1) ∨ (¬ (F 14 1).toInt = 0 ∧ (MA 31 2).toInt = (F 14 3).toInt ∧ 0 ≤ (F 14 3).toInt ∧ (MA 32 2).toInt = (F 14 2).toInt) := hR.2.2.2.2.2.1
      refine lv_pop hx hb dL_law_2152 rfl ?_
      refine lv_goto (tgt := 2156) hx hb dL_law_2153 (by decide) ?_
      exact kk F A (vA B 14 (vA (B 14) 0 y210)) D MF MA MD (vA (vA MB 33 y214) 34 y215) H locs ls ⟨hX.1, hX.2.1, hX.2.2.1, hX.2.2.2.1, hX.2.2.2.2.1, hX.2.2.2.2.2.1, hX.2.2.2.2.2.2.1, hX.2.2.2.2.2.2.2.1, hX.2.2.2.2.2.2.2.2.1, hX.2.2.2.2.2.2.2.2.2.1, hX.2.2.2.2.2.2.2.2.2.2.1, hX.2.2.2.2.2.2.2.2.2.2.2.1, hX.2.2.2.2.2.2.2.2.2.2.2.2.1, hX.2.2.2.2.2.2.2.2.2.2.2.2.2.1, hX.2.2.2.2.2.2.2.2.2.2.2.2.2.2.1, hX.2.2.2.2.2.2.2.2.2.2.2.2.2.2.2.1, hX.2.2.2.2.2.2.2.2.2.2.2.2.2.2.2.2.1, hX.2.2.2.2.2.2.2.2.2.2.2.2.2.2.2.2.2.1, hX.2.2.2.2.2.2.2.2.2.2.2.2.2.2.2.2.2.2.1, hX.2.2.2.2.2.2.2.2.2.2.2.2.2.2.2.2.2.2.2.1, hX.2.2.2.2.2.2.2.2.2.2.2.2.2.2.2.2.2.2.2.2.1, hX.2.2.2.2.2.2.2.2.2.2.2.2.2.2.2.2.2.2.2.2.2.1, hX.2.2.2.2.2.2.2.2.2.2.2.2.2.2.2.2.2.2.2.2.2.2.1, hX.2.2.2.2.2.2.2.2.2.2.2.2.2.2.2.2.2.2.2.2.2.2.2.1, hX.2.2.2.2.2.2.2.2.2.2.2.2.2.2.2.2.2.2.2.2.2.2.2.2.1, hX.2.2.2.2.2.2.2.2.2.2.2.2.2.2.2.2.2.2.2.2.2.2.2.2.2.1, hX.2.2.2.2.2.2.2.2.2.2.2.2.2.2.2.2.2.2.2.2.2.2.2.2.2.2⟩ ⟨hM.1, hM.2.1, hM.2.2⟩ hR hP hD hS hl
    · refine behDi (wr := ((uX6 cs (Q 0 0) (fun _ => Q 0 1) (F 1) (A 1) (B 1) (D 1)) ++ ((uX9 cs (Q 0 1) (Q 2) (F 2) (A 2) (B 2) (D 2)) ++ ((uX3 cs (Q 0 2) (Q 3) (F 3) (A 3) (B 3) (D 3)) ++ ((uX8 cs (Q 0 3) (Q 4) (F 4) (A 4) (B 4) (D 4)) ++ ((uX3 cs (Q 4 0) (Q 5) (F 5) (A 5) (B 5) (D 5)) ++ ((uX5 cs (Q 0 6) (Q 6) (F 6) (A 6) (B 6) (D 6)) ++ ((uX5 cs (Q 0 7) (Q 7) (F 7) (A 7) (B 7) (D 7)) ++ ((uX0 cs (Q 0 8) (Q 8) (F 8) (A 8) (B 8) (D 8)) ++ ((uX1 cs (Q 0 9) (Q 9) (F 9) (A 9) (B 9) (D 9)) ++ ((uX4 cs (Q 0 10) (Q 10) (F 10) (A 10) (B 10) (D 10)) ++ ((uX2 cs (Q 0 11) (Q 11) (F 11) (A 11) (B 11) (D 11)) ++ ((uX7 cs (Q 0 20) (Q 12) (F 12) (A 12) (B 12) (D 12)) ++ ((uX7 cs (Q 0 21) (Q 13) (F 13) (A 13) (B 13) (D 13)) ++ ((uX8 cs (Q 0 30) (Q 16) (F 16) (A 16) (B 16) (D 16)) ++ ((uX3 cs (Q 16 0) (Q 17) (F 17) (A 17) (B 17) (D 17)) ++ ((uX8 cs (Q 0 31) (Q 18) (F 18) (A 18) (B 18) (D 18)) ++ ((uX3 cs (Q 18 0) (Q 19) (F 19) (A 19) (B 19) (D 19)) ++ ((uX8 cs (Q 0 32) (Q 20) (F 20) (A 20) (B 20) (D 20)) ++ ((uX3 cs (Q 20 0) (Q 21) (F 21) (A 21) (B 21) (D 21)) ++ ((uX5 cs (Q 8 10) (Q 22) (F 22) (A 22) (B 22) (D 22)) ++ ((uX5 cs (Q 8 11) (Q 23) (F 23) (A 23) (B 23) (D 23)) ++ ((uX5 cs (Q 8 12) (Q 24) (F 24) (A 24) (B 24) (D 24)) ++ ((uX5 cs (Q 8 13) (Q 25) (F 25) (A 25) (B 25) (D 25)) ++ ((uX5 cs (Q 8 14) (Q 26) (F 26) (A 26) (B 26) (D 26)) ++ (mS cs h2 q2 MF MA MD MB)))))))))))))))))))))))))) (runVD (As := [.int 2, .int a2, .int 3, .int a4, .int a5]) (rest := []) ⟨hx, hb, hml, hown, ht⟩ (sX10_paste_2_3 l G cs h1 (Q 0) (F 0) (A 0) (B 0) (D 0) hX.1 (Q 14) (F 14) (A 14) (B 14) (D 14) hX.2.2.2.2.2.2.2.2.2.2.2.2.2.2.1 (Q 15) (F 15) (A 15) (B 15) (D 15) hX.2.2.2.2.2.2.2.2.2.2.2.2.2.2.2.1 a2 a4 a5) okV_RL_276 ⟨(Nat.le_of_ble_eq_true rfl), (Nat.le_of_ble_eq_true rfl)⟩ hK hP hD [0, 1, 2, 52, 53, 54, 55] rfl (by decide +kernel) rfl 0 rfl rfl hl.1 rfl (Nat.le_of_ble_eq_true rfl) dL_law_2119 ⟨(Nat.le_of_ble_eq_true rfl), (Nat.le_of_ble_eq_true rfl)⟩) hP hD hS (fun _ h => h) [0, 1, 2, 52, 53, 54, 55] [3, 4, 5, 6, 7, 8, 9, 10, 11, 12, 13, 14, 15, 16, 17, 18, 19, 20, 21, 22, 23, 24, 25, 26, 27, 28, 29, 30, 31, 32, 33, 34, 35, 36, 37, 38, 39, 40, 41, 42, 43, 44, 45, 46, 47, 48, 49, 50, 51, 56, 57, 58, 59, 60, 61, 62, 63, 64, 65, 66, 67, 68, 69, 70, 71, 72, 73, 74, 75, 76, 77, 78, 79, 80, 81, 82, 83, 84, 85, 86, 87, 88, 89, 90, 91, 92, 93, 94, 95, 96, 97, 98, 99, 100, 101, 102, 103, 104, 105, 106, 107, 108, 109, 110, 111, 112, 113, 114, 115, 116, 117, 118, 119, 120] rfl rfl (by decide +kernel) (by decide +kernel) (fun r9 u H locs hu hP hD hS => ?_)
      obtain ⟨y219, rfl⟩ : ∃ z, z = u := ⟨_, rfl⟩
      obtain ⟨r218, rfl⟩ : ∃ z, z = r9 := ⟨_, rfl⟩
      have hr218 := hu
      have kk220 : (2 : Int32).toInt = 2 := by decide
      have kk221 : (3 : Int32).toInt = 3 := by decide
      have hr218 : (((F 14 1).toInt = 0 ∨ (F 15 1).toInt = 0) ∧ r218.toInt = -6) ∨ (¬ (F 14 1).toInt = 0 ∧ ¬ (F 15 1).toInt = 0 ∧ ¬ (F 14 2).toInt = (F 15 2).toInt ∧ r218.toInt = -8) ∨ (¬ (F 14 1).toInt = 0 ∧ ¬ (F 15 1).toInt = 0 ∧ (F 14 2).toInt = (F 15 2).toInt ∧ (a2.toInt < 0 ∨ a4.toInt < 0 ∨ a5.toInt < 0 ∨ (F 14 3).toInt < a2.toInt + a5.toInt ∨ (F 15 3).toInt < a4.toInt + a5.toInt) ∧ r218.toInt = -7) ∨ (¬ (F 14 1).toInt = 0 ∧ ¬ (F 15 1).toInt = 0 ∧ (F 14 2).toInt = (F 15 2).toInt ∧ ¬ (a2.toInt < 0 ∨ a4.toInt < 0 ∨ a5.toInt < 0 ∨ (F 14 3).toInt < a2.toInt + a5.toInt ∨ (F 15 3).toInt < a4.toInt + a5.toInt) ∧ r218.toInt = 0) := hr218
      have hP : va_P G vwCl (LW cs h1 Q h2 q2 F A (vA B 15 (vA (B 15) 0 y219)) D MF MA MD MB) H := hP.sub [114, 115, 116, 0, 1, 2, 3, 4, 5, 6, 7, 8, 9, 10, 11, 12, 13, 14, 15, 16, 17, 18, 19, 20, 21, 22, 23, 24, 25, 26, 27, 28, 29, 30, 31, 32, 33, 34, 35, 36, 37, 38, 39, 40, 41, 42, 43, 44, 45, 46, 47, 48, 117, 118, 119, 120, 49, 50, 51, 52, 53, 54, 55, 56, 57, 58, 59, 60, 61, 62, 63, 64, 65, 66, 67, 68, 69, 70, 71, 72, 73, 74, 75, 76, 77, 78, 79, 80, 81, 82, 83, 84, 85, 86, 87, 88, 89, 90, 91, 92, 93, 94, 95, 96, 97, 98, 99, 100, 101, 102, 103, 104, 105, 106, 107, 108, 109, 110, 111, 112, 113] rfl
      have hD : va_D (fun q : Nat => s.heap.size ≤ q) (LW cs h1 Q h2 q2 F A (vA B 15 (vA (B 15) 0 y219)) D MF MA MD MB) := hD.sub [114, 115, 116, 0, 1, 2, 3, 4, 5, 6, 7, 8, 9, 10, 11, 12, 13, 14, 15, 16, 17, 18, 19, 20, 21, 22, 23, 24, 25, 26, 27, 28, 29, 30, 31, 32, 33, 34, 35, 36, 37, 38, 39, 40, 41, 42, 43, 44, 45, 46, 47, 48, 117, 118, 119, 120, 49, 50, 51, 52, 53, 54, 55, 56, 57, 58, 59, 60, 61, 62, 63, 64, 65, 66, 67, 68, 69, 70, 71, 72, 73, 74, 75, 76, 77, 78, 79, 80, 81, 82, 83, 84, 85, 86, 87, 88, 89, 90, 91, 92, 93, 94, 95, 96, 97, 98, 99, 100, 101, 102, 103, 104, 105, 106, 107, 108, 109, 110, 111, 112, 113] (by decide +kernel) rfl
      refine lv_pop hx hb dL_law_2122 rfl ?_
      refine lv_aload_n hx hb dL_law_2123 rfl (lv_at hl 1 rfl) ?_
      refine lv_aload_n hx hb dL_law_2124 rfl (lv_at hl 3 rfl) ?_
      refine lv_iload_n hx hb dL_law_2125 rfl (lv_at hl 0 rfl) ?_
      refine lv_iconst (v := 1) hx hb dL_law_2126 (by decide) ?_
      refine lv_iadd hx hb dL_law_2127 ?_
      refine va_sld hx hb hXs hbl hbA hS (inK t1 (by omega) (by omega)) dL_law_2128 ?_
      refine W.eq (g2 := F0 m 2129 ls [.int 2, .ref h2]) (by rw [← ea1]) ?_
      refine lv_aload_n hx hb dL_law_2129 rfl (lv_at hl 3 rfl) ?_
      refine lv_iload_n hx hb dL_law_2130 rfl (lv_at hl 0 rfl) ?_
      refine lv_iconst (v := 2) hx hb dL_law_2131 (by decide) ?_
      refine lv_iadd hx hb dL_law_2132 ?_
      refine va_sld hx hb hXs hbl hbA hS (inK t2 (by omega) (by omega)) dL_law_2133 ?_
      refine W.eq (g2 := F0 m 2134 ls [.int a2, .int 2, .ref h2]) (by rw [← ea2]) ?_
      refine lv_aload_n hx hb dL_law_2134 rfl (lv_at hl 3 rfl) ?_
      refine lv_iload_n hx hb dL_law_2135 rfl (lv_at hl 0 rfl) ?_
      refine lv_iconst (v := 3) hx hb dL_law_2136 (by decide) ?_
      refine lv_iadd hx hb dL_law_2137 ?_
      refine va_sld hx hb hXs hbl hbA hS (inK t3 (by omega) (by omega)) dL_law_2138 ?_
      refine W.eq (g2 := F0 m 2139 ls [.int 3, .int a2, .int 2, .ref h2]) (by rw [← ea3]) ?_
      refine lv_aload_n hx hb dL_law_2139 rfl (lv_at hl 3 rfl) ?_
      refine lv_iload_n hx hb dL_law_2140 rfl (lv_at hl 0 rfl) ?_
      refine lv_iconst (v := 4) hx hb dL_law_2141 (by decide) ?_
      refine lv_iadd hx hb dL_law_2142 ?_
      refine va_sld hx hb hXs hbl hbA hS (inK t4 (by omega) (by omega)) dL_law_2143 ?_
      refine W.eq (g2 := F0 m 2144 ls [.int a4, .int 3, .int a2, .int 2, .ref h2]) (by rw [← ea4]) ?_
      refine lv_aload_n hx hb dL_law_2144 rfl (lv_at hl 3 rfl) ?_
      refine lv_iload_n hx hb dL_law_2145 rfl (lv_at hl 0 rfl) ?_
      refine lv_iconst (v := 5) hx hb dL_law_2146 (by decide) ?_
      refine lv_iadd hx hb dL_law_2147 ?_
      refine va_sld hx hb hXs hbl hbA hS (inK t5 (by omega) (by omega)) dL_law_2148 ?_
      refine W.eq (g2 := F0 m 2149 ls [.int a5, .int a4, .int 3, .int a2, .int 2, .ref h2]) (by rw [← ea5]) ?_
      refine behDi (wr := (XLW cs h1 Q F A (vA B 15 (vA (B 15) 0 y219)) D)) (runVD (As := [.int 2, .int a2, .int 3, .int a4, .int a5]) (rest := []) ⟨hx, hb, hml, hown, ht⟩ (sX11_paste l G cs h2 q2 MF MA MD MB hM.1 2 a2 3 a4 a5) okV_RL_279 ⟨(Nat.le_of_ble_eq_true rfl), (Nat.le_of_ble_eq_true rfl)⟩ hK hP hD [101, 102, 103, 104, 105, 106, 107, 108, 109, 110, 111, 112, 113, 114, 115, 116, 117, 118, 119, 120] rfl (by decide +kernel) rfl 101 rfl rfl hl.1 rfl (Nat.le_of_ble_eq_true rfl) dL_law_2149 ⟨(Nat.le_of_ble_eq_true rfl), (Nat.le_of_ble_eq_true rfl)⟩) hP hD hS (fun _ h => h) [101, 102, 103, 104, 105, 106, 107, 108, 109, 110, 111, 112, 113, 114, 115, 116, 117, 118, 119, 120] [0, 1, 2, 3, 4, 5, 6, 7, 8, 9, 10, 11, 12, 13, 14, 15, 16, 17, 18, 19, 20, 21, 22, 23, 24, 25, 26, 27, 28, 29, 30, 31, 32, 33, 34, 35, 36, 37, 38, 39, 40, 41, 42, 43, 44, 45, 46, 47, 48, 49, 50, 51, 52, 53, 54, 55, 56, 57, 58, 59, 60, 61, 62, 63, 64, 65, 66, 67, 68, 69, 70, 71, 72, 73, 74, 75, 76, 77, 78, 79, 80, 81, 82, 83, 84, 85, 86, 87, 88, 89, 90, 91, 92, 93, 94, 95, 96, 97, 98, 99, 100] rfl rfl (by decide +kernel) (by decide +kernel) (fun r9 u H locs hu hP hD hS => ?_)
      obtain ⟨y223, y224⟩ := u
      obtain ⟨r222, rfl⟩ : ∃ z, z = r9 := ⟨_, rfl⟩
      have hr222 := hu
      have kk225 : (2 : Int32).toInt = 2 := by decide
      have kk226 : (3 : Int32).toInt = 3 := by decide
      have hr222 : (r222.toInt = -2 ∧ ((2 : Int32).toInt < 0 ∨ 3 < (2 : Int32).toInt ∨ (3 : Int32).toInt < 0 ∨ 3 < (3 : Int32).toInt)) ∨ ((0 ≤ (2 : Int32).toInt ∧ (2 : Int32).toInt ≤ 3) ∧ (0 ≤ (3 : Int32).toInt ∧ (3 : Int32).toInt ≤ 3) ∧ (((MA 31) (2 : Int32).toNatClampNeg).toInt = -1 ∨ ((MA 31) (3 : Int32).toNatClampNeg).toInt = -1) ∧ r222.toInt = -6) ∨ ((0 ≤ (2 : Int32).toInt ∧ (2 : Int32).toInt ≤ 3) ∧ (0 ≤ (3 : Int32).toInt ∧ (3 : Int32).toInt ≤ 3) ∧ ¬ ((MA 31) (2 : Int32).toNatClampNeg).toInt = -1 ∧ ¬ ((MA 31) (3 : Int32).toNatClampNeg).toInt = -1 ∧ ¬ ((MA 32) (2 : Int32).toNatClampNeg).toInt = ((MA 32) (3 : Int32).toNatClampNeg).toInt ∧ r222.toInt = -8) ∨ ((0 ≤ (2 : Int32).toInt ∧ (2 : Int32).toInt ≤ 3) ∧ (0 ≤ (3 : Int32).toInt ∧ (3 : Int32).toInt ≤ 3) ∧ ¬ ((MA 31) (2 : Int32).toNatClampNeg).toInt = -1 ∧ ¬ ((MA 31) (3 : Int32).toNatClampNeg).toInt = -1 ∧ ((MA 32) (2 : Int32).toNatClampNeg).toInt = ((MA 32) (3 : Int32).toNatClampNeg).toInt ∧ (a2.toInt < 0 ∨ a4.toInt < 0 ∨ a5.toInt < 0 ∨ ((MA 31) (2 : Int32).toNatClampNeg).toInt < a2.toInt + a5.toInt ∨ ((MA 31) (3 : Int32).toNatClampNeg).toInt < a4.toInt + a5.toInt) ∧ r222.toInt = -7) ∨ ((0 ≤ (2 : Int32).toInt ∧ (2 : Int32).toInt ≤ 3) ∧ (0 ≤ (3 : Int32).toInt ∧ (3 : Int32).toInt ≤ 3) ∧ ¬ ((MA 31) (2 : Int32).toNatClampNeg).toInt = -1 ∧ ¬ ((MA 31) (3 : Int32).toNatClampNeg).toInt = -1 ∧ ((MA 32) (2 : Int32).toNatClampNeg).toInt = ((MA 32) (3 : Int32).toNatClampNeg).toInt ∧ ¬ (a2.toInt < 0 ∨ a4.toInt < 0 ∨ a5.toInt < 0 ∨ ((MA 31) (2 : Int32).toNatClampNeg).toInt < a2.toInt + a5.toInt ∨ ((MA 31) (3 : Int32).toNatClampNeg).toInt < a4.toInt + a5.toInt) ∧ r222.toInt = 0) := hr222
      have hP : va_P G vwCl (LW cs h1 Q h2 q2 F A (vA B 15 (vA (B 15) 0 y219)) D MF MA MD (vA (vA MB 33 y223) 34 y224)) H := hP
      have hD : va_D (fun q : Nat => s.heap.size ≤ q) (LW cs h1 Q h2 q2 F A (vA B 15 (vA (B 15) 0 y219)) D MF MA MD (vA (vA MB 33 y223) 34 y224)) := hD
      have n31_2 : (MA 31 (2 : Int32).toNatClampNeg).toInt = (MA 31 2).toInt := congrArg (fun z => (MA 31 z).toInt) (show (2 : Int32).toNatClampNeg = 2 by decide)
      have n32_2 : (MA 32 (2 : Int32).toNatClampNeg).toInt = (MA 32 2).toInt := congrArg (fun z => (MA 32 z).toInt) (show (2 : Int32).toNatClampNeg = 2 by decide)
      have nsr_2 : ((F 14 1).toInt = 0 ∧ (MA 31 2).toInt = -1) ∨ (¬ (F 14 1).toInt = 0 ∧ (MA 31 2).toInt = (F 14 3).toInt ∧ 0 ≤ (F 14 3).toInt ∧ (MA 32 2).toInt = (F 14 2).toInt) := hR.2.2.2.2.2.1
      have n31_3 : (MA 31 (3 : Int32).toNatClampNeg).toInt = (MA 31 3).toInt := congrArg (fun z => (MA 31 z).toInt) (show (3 : Int32).toNatClampNeg = 3 by decide)
      have n32_3 : (MA 32 (3 : Int32).toNatClampNeg).toInt = (MA 32 3).toInt := congrArg (fun z => (MA 32 z).toInt) (show (3 : Int32).toNatClampNeg = 3 by decide)
      have nsr_3 : ((F 15 1).toInt = 0 ∧ (MA 31 3).toInt = -1) ∨ (¬ (F 15 1).toInt = 0 ∧ (MA 31 3).toInt = (F 15 3).toInt ∧ 0 ≤ (F 15 3).toInt ∧ (MA 32 3).toInt = (F 15 2).toInt) := hR.2.2.2.2.2.2
      refine lv_pop hx hb dL_law_2152 rfl ?_
      refine lv_goto (tgt := 2156) hx hb dL_law_2153 (by decide) ?_
      exact kk F A (vA B 15 (vA (B 15) 0 y219)) D MF MA MD (vA (vA MB 33 y223) 34 y224) H locs ls ⟨hX.1, hX.2.1, hX.2.2.1, hX.2.2.2.1, hX.2.2.2.2.1, hX.2.2.2.2.2.1, hX.2.2.2.2.2.2.1, hX.2.2.2.2.2.2.2.1, hX.2.2.2.2.2.2.2.2.1, hX.2.2.2.2.2.2.2.2.2.1, hX.2.2.2.2.2.2.2.2.2.2.1, hX.2.2.2.2.2.2.2.2.2.2.2.1, hX.2.2.2.2.2.2.2.2.2.2.2.2.1, hX.2.2.2.2.2.2.2.2.2.2.2.2.2.1, hX.2.2.2.2.2.2.2.2.2.2.2.2.2.2.1, hX.2.2.2.2.2.2.2.2.2.2.2.2.2.2.2.1, hX.2.2.2.2.2.2.2.2.2.2.2.2.2.2.2.2.1, hX.2.2.2.2.2.2.2.2.2.2.2.2.2.2.2.2.2.1, hX.2.2.2.2.2.2.2.2.2.2.2.2.2.2.2.2.2.2.1, hX.2.2.2.2.2.2.2.2.2.2.2.2.2.2.2.2.2.2.2.1, hX.2.2.2.2.2.2.2.2.2.2.2.2.2.2.2.2.2.2.2.2.1, hX.2.2.2.2.2.2.2.2.2.2.2.2.2.2.2.2.2.2.2.2.2.1, hX.2.2.2.2.2.2.2.2.2.2.2.2.2.2.2.2.2.2.2.2.2.2.1, hX.2.2.2.2.2.2.2.2.2.2.2.2.2.2.2.2.2.2.2.2.2.2.2.1, hX.2.2.2.2.2.2.2.2.2.2.2.2.2.2.2.2.2.2.2.2.2.2.2.2.1, hX.2.2.2.2.2.2.2.2.2.2.2.2.2.2.2.2.2.2.2.2.2.2.2.2.2.1, hX.2.2.2.2.2.2.2.2.2.2.2.2.2.2.2.2.2.2.2.2.2.2.2.2.2.2⟩ ⟨hM.1, hM.2.1, hM.2.2⟩ hR hP hD hS hl
  · rcases csN4 a3 with hN | hN | rfl | rfl | rfl | rfl
    · have bb227 := i32b a3
      refine behR (runVP (As := [.int 3, .int a2, .int a3, .int a4, .int a5]) (rest := []) ⟨hx, hb, hml, hown, ht⟩ (sX10_paste_tolo l G cs h1 (Q 0) (F 0) (A 0) (B 0) (D 0) hX.1 3 a2 a3 a4 a5 (by decide) (by omega)) okV_RL_276 ⟨(Nat.le_of_ble_eq_true rfl), (Nat.le_of_ble_eq_true rfl)⟩ hK hP [0, 1, 2] rfl 0 rfl rfl hl.1 rfl (Nat.le_of_ble_eq_true rfl) dL_law_2119 ⟨(Nat.le_of_ble_eq_true rfl), (Nat.le_of_ble_eq_true rfl)⟩) hP hS (fun _ h => h) (fun r228 H locs hr228 hP hS => ?_)
      have kk229 : (3 : Int32).toInt = 3 := by decide
      have hr228 : r228.toInt = -2 := hr228
      refine lv_pop hx hb dL_law_2122 rfl ?_
      refine lv_aload_n hx hb dL_law_2123 rfl (lv_at hl 1 rfl) ?_
      refine lv_aload_n hx hb dL_law_2124 rfl (lv_at hl 3 rfl) ?_
      refine lv_iload_n hx hb dL_law_2125 rfl (lv_at hl 0 rfl) ?_
      refine lv_iconst (v := 1) hx hb dL_law_2126 (by decide) ?_
      refine lv_iadd hx hb dL_law_2127 ?_
      refine va_sld hx hb hXs hbl hbA hS (inK t1 (by omega) (by omega)) dL_law_2128 ?_
      refine W.eq (g2 := F0 m 2129 ls [.int 3, .ref h2]) (by rw [← ea1]) ?_
      refine lv_aload_n hx hb dL_law_2129 rfl (lv_at hl 3 rfl) ?_
      refine lv_iload_n hx hb dL_law_2130 rfl (lv_at hl 0 rfl) ?_
      refine lv_iconst (v := 2) hx hb dL_law_2131 (by decide) ?_
      refine lv_iadd hx hb dL_law_2132 ?_
      refine va_sld hx hb hXs hbl hbA hS (inK t2 (by omega) (by omega)) dL_law_2133 ?_
      refine W.eq (g2 := F0 m 2134 ls [.int a2, .int 3, .ref h2]) (by rw [← ea2]) ?_
      refine lv_aload_n hx hb dL_law_2134 rfl (lv_at hl 3 rfl) ?_
      refine lv_iload_n hx hb dL_law_2135 rfl (lv_at hl 0 rfl) ?_
      refine lv_iconst (v := 3) hx hb dL_law_2136 (by decide) ?_
      refine lv_iadd hx hb dL_law_2137 ?_
      refine va_sld hx hb hXs hbl hbA hS (inK t3 (by omega) (by omega)) dL_law_2138 ?_
      refine W.eq (g2 := F0 m 2139 ls [.int a3, .int a2, .int 3, .ref h2]) (by rw [← ea3]) ?_
      refine lv_aload_n hx hb dL_law_2139 rfl (lv_at hl 3 rfl) ?_
      refine lv_iload_n hx hb dL_law_2140 rfl (lv_at hl 0 rfl) ?_
      refine lv_iconst (v := 4) hx hb dL_law_2141 (by decide) ?_
      refine lv_iadd hx hb dL_law_2142 ?_
      refine va_sld hx hb hXs hbl hbA hS (inK t4 (by omega) (by omega)) dL_law_2143 ?_
      refine W.eq (g2 := F0 m 2144 ls [.int a4, .int a3, .int a2, .int 3, .ref h2]) (by rw [← ea4]) ?_
      refine lv_aload_n hx hb dL_law_2144 rfl (lv_at hl 3 rfl) ?_
      refine lv_iload_n hx hb dL_law_2145 rfl (lv_at hl 0 rfl) ?_
      refine lv_iconst (v := 5) hx hb dL_law_2146 (by decide) ?_
      refine lv_iadd hx hb dL_law_2147 ?_
      refine va_sld hx hb hXs hbl hbA hS (inK t5 (by omega) (by omega)) dL_law_2148 ?_
      refine W.eq (g2 := F0 m 2149 ls [.int a5, .int a4, .int a3, .int a2, .int 3, .ref h2]) (by rw [← ea5]) ?_
      refine behDi (wr := (XLW cs h1 Q F A B D)) (runVD (As := [.int 3, .int a2, .int a3, .int a4, .int a5]) (rest := []) ⟨hx, hb, hml, hown, ht⟩ (sX11_paste l G cs h2 q2 MF MA MD MB hM.1 3 a2 a3 a4 a5) okV_RL_279 ⟨(Nat.le_of_ble_eq_true rfl), (Nat.le_of_ble_eq_true rfl)⟩ hK hP hD [101, 102, 103, 104, 105, 106, 107, 108, 109, 110, 111, 112, 113, 114, 115, 116, 117, 118, 119, 120] rfl (by decide +kernel) rfl 101 rfl rfl hl.1 rfl (Nat.le_of_ble_eq_true rfl) dL_law_2149 ⟨(Nat.le_of_ble_eq_true rfl), (Nat.le_of_ble_eq_true rfl)⟩) hP hD hS (fun _ h => h) [101, 102, 103, 104, 105, 106, 107, 108, 109, 110, 111, 112, 113, 114, 115, 116, 117, 118, 119, 120] [0, 1, 2, 3, 4, 5, 6, 7, 8, 9, 10, 11, 12, 13, 14, 15, 16, 17, 18, 19, 20, 21, 22, 23, 24, 25, 26, 27, 28, 29, 30, 31, 32, 33, 34, 35, 36, 37, 38, 39, 40, 41, 42, 43, 44, 45, 46, 47, 48, 49, 50, 51, 52, 53, 54, 55, 56, 57, 58, 59, 60, 61, 62, 63, 64, 65, 66, 67, 68, 69, 70, 71, 72, 73, 74, 75, 76, 77, 78, 79, 80, 81, 82, 83, 84, 85, 86, 87, 88, 89, 90, 91, 92, 93, 94, 95, 96, 97, 98, 99, 100] rfl rfl (by decide +kernel) (by decide +kernel) (fun r9 u H locs hu hP hD hS => ?_)
      obtain ⟨y231, y232⟩ := u
      obtain ⟨r230, rfl⟩ : ∃ z, z = r9 := ⟨_, rfl⟩
      have hr230 := hu
      have kk233 : (3 : Int32).toInt = 3 := by decide
      have hr230 : (r230.toInt = -2 ∧ ((3 : Int32).toInt < 0 ∨ 3 < (3 : Int32).toInt ∨ a3.toInt < 0 ∨ 3 < a3.toInt)) ∨ ((0 ≤ (3 : Int32).toInt ∧ (3 : Int32).toInt ≤ 3) ∧ (0 ≤ a3.toInt ∧ a3.toInt ≤ 3) ∧ (((MA 31) (3 : Int32).toNatClampNeg).toInt = -1 ∨ ((MA 31) a3.toNatClampNeg).toInt = -1) ∧ r230.toInt = -6) ∨ ((0 ≤ (3 : Int32).toInt ∧ (3 : Int32).toInt ≤ 3) ∧ (0 ≤ a3.toInt ∧ a3.toInt ≤ 3) ∧ ¬ ((MA 31) (3 : Int32).toNatClampNeg).toInt = -1 ∧ ¬ ((MA 31) a3.toNatClampNeg).toInt = -1 ∧ ¬ ((MA 32) (3 : Int32).toNatClampNeg).toInt = ((MA 32) a3.toNatClampNeg).toInt ∧ r230.toInt = -8) ∨ ((0 ≤ (3 : Int32).toInt ∧ (3 : Int32).toInt ≤ 3) ∧ (0 ≤ a3.toInt ∧ a3.toInt ≤ 3) ∧ ¬ ((MA 31) (3 : Int32).toNatClampNeg).toInt = -1 ∧ ¬ ((MA 31) a3.toNatClampNeg).toInt = -1 ∧ ((MA 32) (3 : Int32).toNatClampNeg).toInt = ((MA 32) a3.toNatClampNeg).toInt ∧ (a2.toInt < 0 ∨ a4.toInt < 0 ∨ a5.toInt < 0 ∨ ((MA 31) (3 : Int32).toNatClampNeg).toInt < a2.toInt + a5.toInt ∨ ((MA 31) a3.toNatClampNeg).toInt < a4.toInt + a5.toInt) ∧ r230.toInt = -7) ∨ ((0 ≤ (3 : Int32).toInt ∧ (3 : Int32).toInt ≤ 3) ∧ (0 ≤ a3.toInt ∧ a3.toInt ≤ 3) ∧ ¬ ((MA 31) (3 : Int32).toNatClampNeg).toInt = -1 ∧ ¬ ((MA 31) a3.toNatClampNeg).toInt = -1 ∧ ((MA 32) (3 : Int32).toNatClampNeg).toInt = ((MA 32) a3.toNatClampNeg).toInt ∧ ¬ (a2.toInt < 0 ∨ a4.toInt < 0 ∨ a5.toInt < 0 ∨ ((MA 31) (3 : Int32).toNatClampNeg).toInt < a2.toInt + a5.toInt ∨ ((MA 31) a3.toNatClampNeg).toInt < a4.toInt + a5.toInt) ∧ r230.toInt = 0) := hr230
      have hP : va_P G vwCl (LW cs h1 Q h2 q2 F A B D MF MA MD (vA (vA MB 33 y231) 34 y232)) H := hP
      have hD : va_D (fun q : Nat => s.heap.size ≤ q) (LW cs h1 Q h2 q2 F A B D MF MA MD (vA (vA MB 33 y231) 34 y232)) := hD
      have n31_3 : (MA 31 (3 : Int32).toNatClampNeg).toInt = (MA 31 3).toInt := congrArg (fun z => (MA 31 z).toInt) (show (3 : Int32).toNatClampNeg = 3 by decide)
      have n32_3 : (MA 32 (3 : Int32).toNatClampNeg).toInt = (MA 32 3).toInt := congrArg (fun z => (MA 32 z).toInt) (show (3 : Int32).toNatClampNeg = 3 by decide)
      have nsr_3 : ((F 15 1).toInt = 0 ∧ (MA 31 3).toInt = -1) ∨ (¬ (F 15 1).toInt = 0 ∧ (MA 31 3).toInt = (F 15 3).toInt ∧ 0 ≤ (F 15 3).toInt ∧ (MA 32 3).toInt = (F 15 2).toInt) := hR.2.2.2.2.2.2
      refine lv_pop hx hb dL_law_2152 rfl ?_
      refine lv_goto (tgt := 2156) hx hb dL_law_2153 (by decide) ?_
      exact kk F A B D MF MA MD (vA (vA MB 33 y231) 34 y232) H locs ls ⟨hX.1, hX.2.1, hX.2.2.1, hX.2.2.2.1, hX.2.2.2.2.1, hX.2.2.2.2.2.1, hX.2.2.2.2.2.2.1, hX.2.2.2.2.2.2.2.1, hX.2.2.2.2.2.2.2.2.1, hX.2.2.2.2.2.2.2.2.2.1, hX.2.2.2.2.2.2.2.2.2.2.1, hX.2.2.2.2.2.2.2.2.2.2.2.1, hX.2.2.2.2.2.2.2.2.2.2.2.2.1, hX.2.2.2.2.2.2.2.2.2.2.2.2.2.1, hX.2.2.2.2.2.2.2.2.2.2.2.2.2.2.1, hX.2.2.2.2.2.2.2.2.2.2.2.2.2.2.2.1, hX.2.2.2.2.2.2.2.2.2.2.2.2.2.2.2.2.1, hX.2.2.2.2.2.2.2.2.2.2.2.2.2.2.2.2.2.1, hX.2.2.2.2.2.2.2.2.2.2.2.2.2.2.2.2.2.2.1, hX.2.2.2.2.2.2.2.2.2.2.2.2.2.2.2.2.2.2.2.1, hX.2.2.2.2.2.2.2.2.2.2.2.2.2.2.2.2.2.2.2.2.1, hX.2.2.2.2.2.2.2.2.2.2.2.2.2.2.2.2.2.2.2.2.2.1, hX.2.2.2.2.2.2.2.2.2.2.2.2.2.2.2.2.2.2.2.2.2.2.1, hX.2.2.2.2.2.2.2.2.2.2.2.2.2.2.2.2.2.2.2.2.2.2.2.1, hX.2.2.2.2.2.2.2.2.2.2.2.2.2.2.2.2.2.2.2.2.2.2.2.2.1, hX.2.2.2.2.2.2.2.2.2.2.2.2.2.2.2.2.2.2.2.2.2.2.2.2.2.1, hX.2.2.2.2.2.2.2.2.2.2.2.2.2.2.2.2.2.2.2.2.2.2.2.2.2.2⟩ ⟨hM.1, hM.2.1, hM.2.2⟩ hR hP hD hS hl
    · have bb234 := i32b a3
      refine behR (runVP (As := [.int 3, .int a2, .int a3, .int a4, .int a5]) (rest := []) ⟨hx, hb, hml, hown, ht⟩ (sX10_paste_tohi l G cs h1 (Q 0) (F 0) (A 0) (B 0) (D 0) hX.1 3 a2 a3 a4 a5 (by decide) (by omega)) okV_RL_276 ⟨(Nat.le_of_ble_eq_true rfl), (Nat.le_of_ble_eq_true rfl)⟩ hK hP [0, 1, 2] rfl 0 rfl rfl hl.1 rfl (Nat.le_of_ble_eq_true rfl) dL_law_2119 ⟨(Nat.le_of_ble_eq_true rfl), (Nat.le_of_ble_eq_true rfl)⟩) hP hS (fun _ h => h) (fun r235 H locs hr235 hP hS => ?_)
      have kk236 : (3 : Int32).toInt = 3 := by decide
      have hr235 : r235.toInt = -2 := hr235
      refine lv_pop hx hb dL_law_2122 rfl ?_
      refine lv_aload_n hx hb dL_law_2123 rfl (lv_at hl 1 rfl) ?_
      refine lv_aload_n hx hb dL_law_2124 rfl (lv_at hl 3 rfl) ?_
      refine lv_iload_n hx hb dL_law_2125 rfl (lv_at hl 0 rfl) ?_
      refine lv_iconst (v := 1) hx hb dL_law_2126 (by decide) ?_
      refine lv_iadd hx hb dL_law_2127 ?_
      refine va_sld hx hb hXs hbl hbA hS (inK t1 (by omega) (by omega)) dL_law_2128 ?_
      refine W.eq (g2 := F0 m 2129 ls [.int 3, .ref h2]) (by rw [← ea1]) ?_
      refine lv_aload_n hx hb dL_law_2129 rfl (lv_at hl 3 rfl) ?_
      refine lv_iload_n hx hb dL_law_2130 rfl (lv_at hl 0 rfl) ?_
      refine lv_iconst (v := 2) hx hb dL_law_2131 (by decide) ?_
      refine lv_iadd hx hb dL_law_2132 ?_
      refine va_sld hx hb hXs hbl hbA hS (inK t2 (by omega) (by omega)) dL_law_2133 ?_
      refine W.eq (g2 := F0 m 2134 ls [.int a2, .int 3, .ref h2]) (by rw [← ea2]) ?_
      refine lv_aload_n hx hb dL_law_2134 rfl (lv_at hl 3 rfl) ?_
      refine lv_iload_n hx hb dL_law_2135 rfl (lv_at hl 0 rfl) ?_
      refine lv_iconst (v := 3) hx hb dL_law_2136 (by decide) ?_
      refine lv_iadd hx hb dL_law_2137 ?_
      refine va_sld hx hb hXs hbl hbA hS (inK t3 (by omega) (by omega)) dL_law_2138 ?_
      refine W.eq (g2 := F0 m 2139 ls [.int a3, .int a2, .int 3, .ref h2]) (by rw [← ea3]) ?_
      refine lv_aload_n hx hb dL_law_2139 rfl (lv_at hl 3 rfl) ?_
      refine lv_iload_n hx hb dL_law_2140 rfl (lv_at hl 0 rfl) ?_
      refine lv_iconst (v := 4) hx hb dL_law_2141 (by decide) ?_
      refine lv_iadd hx hb dL_law_2142 ?_
      refine va_sld hx hb hXs hbl hbA hS (inK t4 (by omega) (by omega)) dL_law_2143 ?_
      refine W.eq (g2 := F0 m 2144 ls [.int a4, .int a3, .int a2, .int 3, .ref h2]) (by rw [← ea4]) ?_
      refine lv_aload_n hx hb dL_law_2144 rfl (lv_at hl 3 rfl) ?_
      refine lv_iload_n hx hb dL_law_2145 rfl (lv_at hl 0 rfl) ?_
      refine lv_iconst (v := 5) hx hb dL_law_2146 (by decide) ?_
      refine lv_iadd hx hb dL_law_2147 ?_
      refine va_sld hx hb hXs hbl hbA hS (inK t5 (by omega) (by omega)) dL_law_2148 ?_
      refine W.eq (g2 := F0 m 2149 ls [.int a5, .int a4, .int a3, .int a2, .int 3, .ref h2]) (by rw [← ea5]) ?_
      refine behDi (wr := (XLW cs h1 Q F A B D)) (runVD (As := [.int 3, .int a2, .int a3, .int a4, .int a5]) (rest := []) ⟨hx, hb, hml, hown, ht⟩ (sX11_paste l G cs h2 q2 MF MA MD MB hM.1 3 a2 a3 a4 a5) okV_RL_279 ⟨(Nat.le_of_ble_eq_true rfl), (Nat.le_of_ble_eq_true rfl)⟩ hK hP hD [101, 102, 103, 104, 105, 106, 107, 108, 109, 110, 111, 112, 113, 114, 115, 116, 117, 118, 119, 120] rfl (by decide +kernel) rfl 101 rfl rfl hl.1 rfl (Nat.le_of_ble_eq_true rfl) dL_law_2149 ⟨(Nat.le_of_ble_eq_true rfl), (Nat.le_of_ble_eq_true rfl)⟩) hP hD hS (fun _ h => h) [101, 102, 103, 104, 105, 106, 107, 108, 109, 110, 111, 112, 113, 114, 115, 116, 117, 118, 119, 120] [0, 1, 2, 3, 4, 5, 6, 7, 8, 9, 10, 11, 12, 13, 14, 15, 16, 17, 18, 19, 20, 21, 22, 23, 24, 25, 26, 27, 28, 29, 30, 31, 32, 33, 34, 35, 36, 37, 38, 39, 40, 41, 42, 43, 44, 45, 46, 47, 48, 49, 50, 51, 52, 53, 54, 55, 56, 57, 58, 59, 60, 61, 62, 63, 64, 65, 66, 67, 68, 69, 70, 71, 72, 73, 74, 75, 76, 77, 78, 79, 80, 81, 82, 83, 84, 85, 86, 87, 88, 89, 90, 91, 92, 93, 94, 95, 96, 97, 98, 99, 100] rfl rfl (by decide +kernel) (by decide +kernel) (fun r9 u H locs hu hP hD hS => ?_)
      obtain ⟨y238, y239⟩ := u
      obtain ⟨r237, rfl⟩ : ∃ z, z = r9 := ⟨_, rfl⟩
      have hr237 := hu
      have kk240 : (3 : Int32).toInt = 3 := by decide
      have hr237 : (r237.toInt = -2 ∧ ((3 : Int32).toInt < 0 ∨ 3 < (3 : Int32).toInt ∨ a3.toInt < 0 ∨ 3 < a3.toInt)) ∨ ((0 ≤ (3 : Int32).toInt ∧ (3 : Int32).toInt ≤ 3) ∧ (0 ≤ a3.toInt ∧ a3.toInt ≤ 3) ∧ (((MA 31) (3 : Int32).toNatClampNeg).toInt = -1 ∨ ((MA 31) a3.toNatClampNeg).toInt = -1) ∧ r237.toInt = -6) ∨ ((0 ≤ (3 : Int32).toInt ∧ (3 : Int32).toInt ≤ 3) ∧ (0 ≤ a3.toInt ∧ a3.toInt ≤ 3) ∧ ¬ ((MA 31) (3 : Int32).toNatClampNeg).toInt = -1 ∧ ¬ ((MA 31) a3.toNatClampNeg).toInt = -1 ∧ ¬ ((MA 32) (3 : Int32).toNatClampNeg).toInt = ((MA 32) a3.toNatClampNeg).toInt ∧ r237.toInt = -8) ∨ ((0 ≤ (3 : Int32).toInt ∧ (3 : Int32).toInt ≤ 3) ∧ (0 ≤ a3.toInt ∧ a3.toInt ≤ 3) ∧ ¬ ((MA 31) (3 : Int32).toNatClampNeg).toInt = -1 ∧ ¬ ((MA 31) a3.toNatClampNeg).toInt = -1 ∧ ((MA 32) (3 : Int32).toNatClampNeg).toInt = ((MA 32) a3.toNatClampNeg).toInt ∧ (a2.toInt < 0 ∨ a4.toInt < 0 ∨ a5.toInt < 0 ∨ ((MA 31) (3 : Int32).toNatClampNeg).toInt < a2.toInt + a5.toInt ∨ ((MA 31) a3.toNatClampNeg).toInt < a4.toInt + a5.toInt) ∧ r237.toInt = -7) ∨ ((0 ≤ (3 : Int32).toInt ∧ (3 : Int32).toInt ≤ 3) ∧ (0 ≤ a3.toInt ∧ a3.toInt ≤ 3) ∧ ¬ ((MA 31) (3 : Int32).toNatClampNeg).toInt = -1 ∧ ¬ ((MA 31) a3.toNatClampNeg).toInt = -1 ∧ ((MA 32) (3 : Int32).toNatClampNeg).toInt = ((MA 32) a3.toNatClampNeg).toInt ∧ ¬ (a2.toInt < 0 ∨ a4.toInt < 0 ∨ a5.toInt < 0 ∨ ((MA 31) (3 : Int32).toNatClampNeg).toInt < a2.toInt + a5.toInt ∨ ((MA 31) a3.toNatClampNeg).toInt < a4.toInt + a5.toInt) ∧ r237.toInt = 0) := hr237
      have hP : va_P G vwCl (LW cs h1 Q h2 q2 F A B D MF MA MD (vA (vA MB 33 y238) 34 y239)) H := hP
      have hD : va_D (fun q : Nat => s.heap.size ≤ q) (LW cs h1 Q h2 q2 F A B D MF MA MD (vA (vA MB 33 y238) 34 y239)) := hD
      have n31_3 : (MA 31 (3 : Int32).toNatClampNeg).toInt = (MA 31 3).toInt := congrArg (fun z => (MA 31 z).toInt) (show (3 : Int32).toNatClampNeg = 3 by decide)
      have n32_3 : (MA 32 (3 : Int32).toNatClampNeg).toInt = (MA 32 3).toInt := congrArg (fun z => (MA 32 z).toInt) (show (3 : Int32).toNatClampNeg = 3 by decide)
      have nsr_3 : ((F 15 1).toInt = 0 ∧ (MA 31 3).toInt = -1) ∨ (¬ (F 15 1).toInt = 0 ∧ (MA 31 3).toInt = (F 15 3).toInt ∧ 0 ≤ (F 15 3).toInt ∧ (MA 32 3).toInt = (F 15 2).toInt) := hR.2.2.2.2.2.2
      refine lv_pop hx hb dL_law_2152 rfl ?_
      refine lv_goto (tgt := 2156) hx hb dL_law_2153 (by decide) ?_
      exact kk F A B D MF MA MD (vA (vA MB 33 y238) 34 y239) H locs ls ⟨hX.1, hX.2.1, hX.2.2.1, hX.2.2.2.1, hX.2.2.2.2.1, hX.2.2.2.2.2.1, hX.2.2.2.2.2.2.1, hX.2.2.2.2.2.2.2.1, hX.2.2.2.2.2.2.2.2.1, hX.2.2.2.2.2.2.2.2.2.1, hX.2.2.2.2.2.2.2.2.2.2.1, hX.2.2.2.2.2.2.2.2.2.2.2.1, hX.2.2.2.2.2.2.2.2.2.2.2.2.1, hX.2.2.2.2.2.2.2.2.2.2.2.2.2.1, hX.2.2.2.2.2.2.2.2.2.2.2.2.2.2.1, hX.2.2.2.2.2.2.2.2.2.2.2.2.2.2.2.1, hX.2.2.2.2.2.2.2.2.2.2.2.2.2.2.2.2.1, hX.2.2.2.2.2.2.2.2.2.2.2.2.2.2.2.2.2.1, hX.2.2.2.2.2.2.2.2.2.2.2.2.2.2.2.2.2.2.1, hX.2.2.2.2.2.2.2.2.2.2.2.2.2.2.2.2.2.2.2.1, hX.2.2.2.2.2.2.2.2.2.2.2.2.2.2.2.2.2.2.2.2.1, hX.2.2.2.2.2.2.2.2.2.2.2.2.2.2.2.2.2.2.2.2.2.1, hX.2.2.2.2.2.2.2.2.2.2.2.2.2.2.2.2.2.2.2.2.2.2.1, hX.2.2.2.2.2.2.2.2.2.2.2.2.2.2.2.2.2.2.2.2.2.2.2.1, hX.2.2.2.2.2.2.2.2.2.2.2.2.2.2.2.2.2.2.2.2.2.2.2.2.1, hX.2.2.2.2.2.2.2.2.2.2.2.2.2.2.2.2.2.2.2.2.2.2.2.2.2.1, hX.2.2.2.2.2.2.2.2.2.2.2.2.2.2.2.2.2.2.2.2.2.2.2.2.2.2⟩ ⟨hM.1, hM.2.1, hM.2.2⟩ hR hP hD hS hl
    · refine behDi (wr := ((uX6 cs (Q 0 0) (fun _ => Q 0 1) (F 1) (A 1) (B 1) (D 1)) ++ ((uX9 cs (Q 0 1) (Q 2) (F 2) (A 2) (B 2) (D 2)) ++ ((uX3 cs (Q 0 2) (Q 3) (F 3) (A 3) (B 3) (D 3)) ++ ((uX8 cs (Q 0 3) (Q 4) (F 4) (A 4) (B 4) (D 4)) ++ ((uX3 cs (Q 4 0) (Q 5) (F 5) (A 5) (B 5) (D 5)) ++ ((uX5 cs (Q 0 6) (Q 6) (F 6) (A 6) (B 6) (D 6)) ++ ((uX5 cs (Q 0 7) (Q 7) (F 7) (A 7) (B 7) (D 7)) ++ ((uX0 cs (Q 0 8) (Q 8) (F 8) (A 8) (B 8) (D 8)) ++ ((uX1 cs (Q 0 9) (Q 9) (F 9) (A 9) (B 9) (D 9)) ++ ((uX4 cs (Q 0 10) (Q 10) (F 10) (A 10) (B 10) (D 10)) ++ ((uX2 cs (Q 0 11) (Q 11) (F 11) (A 11) (B 11) (D 11)) ++ ((uX7 cs (Q 0 21) (Q 13) (F 13) (A 13) (B 13) (D 13)) ++ ((uX7 cs (Q 0 22) (Q 14) (F 14) (A 14) (B 14) (D 14)) ++ ((uX8 cs (Q 0 30) (Q 16) (F 16) (A 16) (B 16) (D 16)) ++ ((uX3 cs (Q 16 0) (Q 17) (F 17) (A 17) (B 17) (D 17)) ++ ((uX8 cs (Q 0 31) (Q 18) (F 18) (A 18) (B 18) (D 18)) ++ ((uX3 cs (Q 18 0) (Q 19) (F 19) (A 19) (B 19) (D 19)) ++ ((uX8 cs (Q 0 32) (Q 20) (F 20) (A 20) (B 20) (D 20)) ++ ((uX3 cs (Q 20 0) (Q 21) (F 21) (A 21) (B 21) (D 21)) ++ ((uX5 cs (Q 8 10) (Q 22) (F 22) (A 22) (B 22) (D 22)) ++ ((uX5 cs (Q 8 11) (Q 23) (F 23) (A 23) (B 23) (D 23)) ++ ((uX5 cs (Q 8 12) (Q 24) (F 24) (A 24) (B 24) (D 24)) ++ ((uX5 cs (Q 8 13) (Q 25) (F 25) (A 25) (B 25) (D 25)) ++ ((uX5 cs (Q 8 14) (Q 26) (F 26) (A 26) (B 26) (D 26)) ++ (mS cs h2 q2 MF MA MD MB)))))))))))))))))))))))))) (runVD (As := [.int 3, .int a2, .int 0, .int a4, .int a5]) (rest := []) ⟨hx, hb, hml, hown, ht⟩ (sX10_paste_3_0 l G cs h1 (Q 0) (F 0) (A 0) (B 0) (D 0) hX.1 (Q 15) (F 15) (A 15) (B 15) (D 15) hX.2.2.2.2.2.2.2.2.2.2.2.2.2.2.2.1 (Q 12) (F 12) (A 12) (B 12) (D 12) hX.2.2.2.2.2.2.2.2.2.2.2.2.1 a2 a4 a5) okV_RL_276 ⟨(Nat.le_of_ble_eq_true rfl), (Nat.le_of_ble_eq_true rfl)⟩ hK hP hD [0, 1, 2, 54, 55, 48, 49] rfl (by decide +kernel) rfl 0 rfl rfl hl.1 rfl (Nat.le_of_ble_eq_true rfl) dL_law_2119 ⟨(Nat.le_of_ble_eq_true rfl), (Nat.le_of_ble_eq_true rfl)⟩) hP hD hS (fun _ h => h) [0, 1, 2, 54, 55, 48, 49] [3, 4, 5, 6, 7, 8, 9, 10, 11, 12, 13, 14, 15, 16, 17, 18, 19, 20, 21, 22, 23, 24, 25, 26, 27, 28, 29, 30, 31, 32, 33, 34, 35, 36, 37, 38, 39, 40, 41, 42, 43, 44, 45, 46, 47, 50, 51, 52, 53, 56, 57, 58, 59, 60, 61, 62, 63, 64, 65, 66, 67, 68, 69, 70, 71, 72, 73, 74, 75, 76, 77, 78, 79, 80, 81, 82, 83, 84, 85, 86, 87, 88, 89, 90, 91, 92, 93, 94, 95, 96, 97, 98, 99, 100, 101, 102, 103, 104, 105, 106, 107, 108, 109, 110, 111, 112, 113, 114, 115, 116, 117, 118, 119, 120] rfl rfl (by decide +kernel) (by decide +kernel) (fun r9 u H locs hu hP hD hS => ?_)
      obtain ⟨y242, rfl⟩ : ∃ z, z = u := ⟨_, rfl⟩
      obtain ⟨r241, rfl⟩ : ∃ z, z = r9 := ⟨_, rfl⟩
      have hr241 := hu
      have kk243 : (3 : Int32).toInt = 3 := by decide
      have kk244 : (0 : Int32).toInt = 0 := by decide
      have hr241 : (((F 15 1).toInt = 0 ∨ (F 12 1).toInt = 0) ∧ r241.toInt = -6) ∨ (¬ (F 15 1).toInt = 0 ∧ ¬ (F 12 1).toInt = 0 ∧ ¬ (F 15 2).toInt = (F 12 2).toInt ∧ r241.toInt = -8) ∨ (¬ (F 15 1).toInt = 0 ∧ ¬ (F 12 1).toInt = 0 ∧ (F 15 2).toInt = (F 12 2).toInt ∧ (a2.toInt < 0 ∨ a4.toInt < 0 ∨ a5.toInt < 0 ∨ (F 15 3).toInt < a2.toInt + a5.toInt ∨ (F 12 3).toInt < a4.toInt + a5.toInt) ∧ r241.toInt = -7) ∨ (¬ (F 15 1).toInt = 0 ∧ ¬ (F 12 1).toInt = 0 ∧ (F 15 2).toInt = (F 12 2).toInt ∧ ¬ (a2.toInt < 0 ∨ a4.toInt < 0 ∨ a5.toInt < 0 ∨ (F 15 3).toInt < a2.toInt + a5.toInt ∨ (F 12 3).toInt < a4.toInt + a5.toInt) ∧ r241.toInt = 0) := hr241
      have hP : va_P G vwCl (LW cs h1 Q h2 q2 F A (vA B 12 (vA (B 12) 0 y242)) D MF MA MD MB) H := hP.sub [114, 115, 116, 0, 1, 2, 3, 4, 5, 6, 7, 8, 9, 10, 11, 12, 13, 14, 15, 16, 17, 18, 19, 20, 21, 22, 23, 24, 25, 26, 27, 28, 29, 30, 31, 32, 33, 34, 35, 36, 37, 38, 39, 40, 41, 42, 43, 44, 119, 120, 45, 46, 47, 48, 117, 118, 49, 50, 51, 52, 53, 54, 55, 56, 57, 58, 59, 60, 61, 62, 63, 64, 65, 66, 67, 68, 69, 70, 71, 72, 73, 74, 75, 76, 77, 78, 79, 80, 81, 82, 83, 84, 85, 86, 87, 88, 89, 90, 91, 92, 93, 94, 95, 96, 97, 98, 99, 100, 101, 102, 103, 104, 105, 106, 107, 108, 109, 110, 111, 112, 113] rfl
      have hD : va_D (fun q : Nat => s.heap.size ≤ q) (LW cs h1 Q h2 q2 F A (vA B 12 (vA (B 12) 0 y242)) D MF MA MD MB) := hD.sub [114, 115, 116, 0, 1, 2, 3, 4, 5, 6, 7, 8, 9, 10, 11, 12, 13, 14, 15, 16, 17, 18, 19, 20, 21, 22, 23, 24, 25, 26, 27, 28, 29, 30, 31, 32, 33, 34, 35, 36, 37, 38, 39, 40, 41, 42, 43, 44, 119, 120, 45, 46, 47, 48, 117, 118, 49, 50, 51, 52, 53, 54, 55, 56, 57, 58, 59, 60, 61, 62, 63, 64, 65, 66, 67, 68, 69, 70, 71, 72, 73, 74, 75, 76, 77, 78, 79, 80, 81, 82, 83, 84, 85, 86, 87, 88, 89, 90, 91, 92, 93, 94, 95, 96, 97, 98, 99, 100, 101, 102, 103, 104, 105, 106, 107, 108, 109, 110, 111, 112, 113] (by decide +kernel) rfl
      refine lv_pop hx hb dL_law_2122 rfl ?_
      refine lv_aload_n hx hb dL_law_2123 rfl (lv_at hl 1 rfl) ?_
      refine lv_aload_n hx hb dL_law_2124 rfl (lv_at hl 3 rfl) ?_
      refine lv_iload_n hx hb dL_law_2125 rfl (lv_at hl 0 rfl) ?_
      refine lv_iconst (v := 1) hx hb dL_law_2126 (by decide) ?_
      refine lv_iadd hx hb dL_law_2127 ?_
      refine va_sld hx hb hXs hbl hbA hS (inK t1 (by omega) (by omega)) dL_law_2128 ?_
      refine W.eq (g2 := F0 m 2129 ls [.int 3, .ref h2]) (by rw [← ea1]) ?_
      refine lv_aload_n hx hb dL_law_2129 rfl (lv_at hl 3 rfl) ?_
      refine lv_iload_n hx hb dL_law_2130 rfl (lv_at hl 0 rfl) ?_
      refine lv_iconst (v := 2) hx hb dL_law_2131 (by decide) ?_
      refine lv_iadd hx hb dL_law_2132 ?_
      refine va_sld hx hb hXs hbl hbA hS (inK t2 (by omega) (by omega)) dL_law_2133 ?_
      refine W.eq (g2 := F0 m 2134 ls [.int a2, .int 3, .ref h2]) (by rw [← ea2]) ?_
      refine lv_aload_n hx hb dL_law_2134 rfl (lv_at hl 3 rfl) ?_
      refine lv_iload_n hx hb dL_law_2135 rfl (lv_at hl 0 rfl) ?_
      refine lv_iconst (v := 3) hx hb dL_law_2136 (by decide) ?_
      refine lv_iadd hx hb dL_law_2137 ?_
      refine va_sld hx hb hXs hbl hbA hS (inK t3 (by omega) (by omega)) dL_law_2138 ?_
      refine W.eq (g2 := F0 m 2139 ls [.int 0, .int a2, .int 3, .ref h2]) (by rw [← ea3]) ?_
      refine lv_aload_n hx hb dL_law_2139 rfl (lv_at hl 3 rfl) ?_
      refine lv_iload_n hx hb dL_law_2140 rfl (lv_at hl 0 rfl) ?_
      refine lv_iconst (v := 4) hx hb dL_law_2141 (by decide) ?_
      refine lv_iadd hx hb dL_law_2142 ?_
      refine va_sld hx hb hXs hbl hbA hS (inK t4 (by omega) (by omega)) dL_law_2143 ?_
      refine W.eq (g2 := F0 m 2144 ls [.int a4, .int 0, .int a2, .int 3, .ref h2]) (by rw [← ea4]) ?_
      refine lv_aload_n hx hb dL_law_2144 rfl (lv_at hl 3 rfl) ?_
      refine lv_iload_n hx hb dL_law_2145 rfl (lv_at hl 0 rfl) ?_
      refine lv_iconst (v := 5) hx hb dL_law_2146 (by decide) ?_
      refine lv_iadd hx hb dL_law_2147 ?_
      refine va_sld hx hb hXs hbl hbA hS (inK t5 (by omega) (by omega)) dL_law_2148 ?_
      refine W.eq (g2 := F0 m 2149 ls [.int a5, .int a4, .int 0, .int a2, .int 3, .ref h2]) (by rw [← ea5]) ?_
      refine behDi (wr := (XLW cs h1 Q F A (vA B 12 (vA (B 12) 0 y242)) D)) (runVD (As := [.int 3, .int a2, .int 0, .int a4, .int a5]) (rest := []) ⟨hx, hb, hml, hown, ht⟩ (sX11_paste l G cs h2 q2 MF MA MD MB hM.1 3 a2 0 a4 a5) okV_RL_279 ⟨(Nat.le_of_ble_eq_true rfl), (Nat.le_of_ble_eq_true rfl)⟩ hK hP hD [101, 102, 103, 104, 105, 106, 107, 108, 109, 110, 111, 112, 113, 114, 115, 116, 117, 118, 119, 120] rfl (by decide +kernel) rfl 101 rfl rfl hl.1 rfl (Nat.le_of_ble_eq_true rfl) dL_law_2149 ⟨(Nat.le_of_ble_eq_true rfl), (Nat.le_of_ble_eq_true rfl)⟩) hP hD hS (fun _ h => h) [101, 102, 103, 104, 105, 106, 107, 108, 109, 110, 111, 112, 113, 114, 115, 116, 117, 118, 119, 120] [0, 1, 2, 3, 4, 5, 6, 7, 8, 9, 10, 11, 12, 13, 14, 15, 16, 17, 18, 19, 20, 21, 22, 23, 24, 25, 26, 27, 28, 29, 30, 31, 32, 33, 34, 35, 36, 37, 38, 39, 40, 41, 42, 43, 44, 45, 46, 47, 48, 49, 50, 51, 52, 53, 54, 55, 56, 57, 58, 59, 60, 61, 62, 63, 64, 65, 66, 67, 68, 69, 70, 71, 72, 73, 74, 75, 76, 77, 78, 79, 80, 81, 82, 83, 84, 85, 86, 87, 88, 89, 90, 91, 92, 93, 94, 95, 96, 97, 98, 99, 100] rfl rfl (by decide +kernel) (by decide +kernel) (fun r9 u H locs hu hP hD hS => ?_)
      obtain ⟨y246, y247⟩ := u
      obtain ⟨r245, rfl⟩ : ∃ z, z = r9 := ⟨_, rfl⟩
      have hr245 := hu
      have kk248 : (3 : Int32).toInt = 3 := by decide
      have kk249 : (0 : Int32).toInt = 0 := by decide
      have hr245 : (r245.toInt = -2 ∧ ((3 : Int32).toInt < 0 ∨ 3 < (3 : Int32).toInt ∨ (0 : Int32).toInt < 0 ∨ 3 < (0 : Int32).toInt)) ∨ ((0 ≤ (3 : Int32).toInt ∧ (3 : Int32).toInt ≤ 3) ∧ (0 ≤ (0 : Int32).toInt ∧ (0 : Int32).toInt ≤ 3) ∧ (((MA 31) (3 : Int32).toNatClampNeg).toInt = -1 ∨ ((MA 31) (0 : Int32).toNatClampNeg).toInt = -1) ∧ r245.toInt = -6) ∨ ((0 ≤ (3 : Int32).toInt ∧ (3 : Int32).toInt ≤ 3) ∧ (0 ≤ (0 : Int32).toInt ∧ (0 : Int32).toInt ≤ 3) ∧ ¬ ((MA 31) (3 : Int32).toNatClampNeg).toInt = -1 ∧ ¬ ((MA 31) (0 : Int32).toNatClampNeg).toInt = -1 ∧ ¬ ((MA 32) (3 : Int32).toNatClampNeg).toInt = ((MA 32) (0 : Int32).toNatClampNeg).toInt ∧ r245.toInt = -8) ∨ ((0 ≤ (3 : Int32).toInt ∧ (3 : Int32).toInt ≤ 3) ∧ (0 ≤ (0 : Int32).toInt ∧ (0 : Int32).toInt ≤ 3) ∧ ¬ ((MA 31) (3 : Int32).toNatClampNeg).toInt = -1 ∧ ¬ ((MA 31) (0 : Int32).toNatClampNeg).toInt = -1 ∧ ((MA 32) (3 : Int32).toNatClampNeg).toInt = ((MA 32) (0 : Int32).toNatClampNeg).toInt ∧ (a2.toInt < 0 ∨ a4.toInt < 0 ∨ a5.toInt < 0 ∨ ((MA 31) (3 : Int32).toNatClampNeg).toInt < a2.toInt + a5.toInt ∨ ((MA 31) (0 : Int32).toNatClampNeg).toInt < a4.toInt + a5.toInt) ∧ r245.toInt = -7) ∨ ((0 ≤ (3 : Int32).toInt ∧ (3 : Int32).toInt ≤ 3) ∧ (0 ≤ (0 : Int32).toInt ∧ (0 : Int32).toInt ≤ 3) ∧ ¬ ((MA 31) (3 : Int32).toNatClampNeg).toInt = -1 ∧ ¬ ((MA 31) (0 : Int32).toNatClampNeg).toInt = -1 ∧ ((MA 32) (3 : Int32).toNatClampNeg).toInt = ((MA 32) (0 : Int32).toNatClampNeg).toInt ∧ ¬ (a2.toInt < 0 ∨ a4.toInt < 0 ∨ a5.toInt < 0 ∨ ((MA 31) (3 : Int32).toNatClampNeg).toInt < a2.toInt + a5.toInt ∨ ((MA 31) (0 : Int32).toNatClampNeg).toInt < a4.toInt + a5.toInt) ∧ r245.toInt = 0) := hr245
      have hP : va_P G vwCl (LW cs h1 Q h2 q2 F A (vA B 12 (vA (B 12) 0 y242)) D MF MA MD (vA (vA MB 33 y246) 34 y247)) H := hP
      have hD : va_D (fun q : Nat => s.heap.size ≤ q) (LW cs h1 Q h2 q2 F A (vA B 12 (vA (B 12) 0 y242)) D MF MA MD (vA (vA MB 33 y246) 34 y247)) := hD
      have n31_0 : (MA 31 (0 : Int32).toNatClampNeg).toInt = (MA 31 0).toInt := congrArg (fun z => (MA 31 z).toInt) (show (0 : Int32).toNatClampNeg = 0 by decide)
      have n32_0 : (MA 32 (0 : Int32).toNatClampNeg).toInt = (MA 32 0).toInt := congrArg (fun z => (MA 32 z).toInt) (show (0 : Int32).toNatClampNeg = 0 by decide)
      have nsr_0 : ((F 12 1).toInt = 0 ∧ (MA 31 0).toInt = -1) ∨ (¬ (F 12 1).toInt = 0 ∧ (MA 31 0).toInt = (F 12 3).toInt ∧ 0 ≤ (F 12 3).toInt ∧ (MA 32 0).toInt = (F 12 2).toInt) := hR.2.2.2.1
      have n31_3 : (MA 31 (3 : Int32).toNatClampNeg).toInt = (MA 31 3).toInt := congrArg (fun z => (MA 31 z).toInt) (show (3 : Int32).toNatClampNeg = 3 by decide)
      have n32_3 : (MA 32 (3 : Int32).toNatClampNeg).toInt = (MA 32 3).toInt := congrArg (fun z => (MA 32 z).toInt) (show (3 : Int32).toNatClampNeg = 3 by decide)
      have nsr_3 : ((F 15 1).toInt = 0 ∧ (MA 31 3).toInt = -1) ∨ (¬ (F 15 1).toInt = 0 ∧ (MA 31 3).toInt = (F 15 3).toInt ∧ 0 ≤ (F 15 3).toInt ∧ (MA 32 3).toInt = (F 15 2).toInt) := hR.2.2.2.2.2.2
      refine lv_pop hx hb dL_law_2152 rfl ?_
      refine lv_goto (tgt := 2156) hx hb dL_law_2153 (by decide) ?_
      exact kk F A (vA B 12 (vA (B 12) 0 y242)) D MF MA MD (vA (vA MB 33 y246) 34 y247) H locs ls ⟨hX.1, hX.2.1, hX.2.2.1, hX.2.2.2.1, hX.2.2.2.2.1, hX.2.2.2.2.2.1, hX.2.2.2.2.2.2.1, hX.2.2.2.2.2.2.2.1, hX.2.2.2.2.2.2.2.2.1, hX.2.2.2.2.2.2.2.2.2.1, hX.2.2.2.2.2.2.2.2.2.2.1, hX.2.2.2.2.2.2.2.2.2.2.2.1, hX.2.2.2.2.2.2.2.2.2.2.2.2.1, hX.2.2.2.2.2.2.2.2.2.2.2.2.2.1, hX.2.2.2.2.2.2.2.2.2.2.2.2.2.2.1, hX.2.2.2.2.2.2.2.2.2.2.2.2.2.2.2.1, hX.2.2.2.2.2.2.2.2.2.2.2.2.2.2.2.2.1, hX.2.2.2.2.2.2.2.2.2.2.2.2.2.2.2.2.2.1, hX.2.2.2.2.2.2.2.2.2.2.2.2.2.2.2.2.2.2.1, hX.2.2.2.2.2.2.2.2.2.2.2.2.2.2.2.2.2.2.2.1, hX.2.2.2.2.2.2.2.2.2.2.2.2.2.2.2.2.2.2.2.2.1, hX.2.2.2.2.2.2.2.2.2.2.2.2.2.2.2.2.2.2.2.2.2.1, hX.2.2.2.2.2.2.2.2.2.2.2.2.2.2.2.2.2.2.2.2.2.2.1, hX.2.2.2.2.2.2.2.2.2.2.2.2.2.2.2.2.2.2.2.2.2.2.2.1, hX.2.2.2.2.2.2.2.2.2.2.2.2.2.2.2.2.2.2.2.2.2.2.2.2.1, hX.2.2.2.2.2.2.2.2.2.2.2.2.2.2.2.2.2.2.2.2.2.2.2.2.2.1, hX.2.2.2.2.2.2.2.2.2.2.2.2.2.2.2.2.2.2.2.2.2.2.2.2.2.2⟩ ⟨hM.1, hM.2.1, hM.2.2⟩ hR hP hD hS hl
    · refine behDi (wr := ((uX6 cs (Q 0 0) (fun _ => Q 0 1) (F 1) (A 1) (B 1) (D 1)) ++ ((uX9 cs (Q 0 1) (Q 2) (F 2) (A 2) (B 2) (D 2)) ++ ((uX3 cs (Q 0 2) (Q 3) (F 3) (A 3) (B 3) (D 3)) ++ ((uX8 cs (Q 0 3) (Q 4) (F 4) (A 4) (B 4) (D 4)) ++ ((uX3 cs (Q 4 0) (Q 5) (F 5) (A 5) (B 5) (D 5)) ++ ((uX5 cs (Q 0 6) (Q 6) (F 6) (A 6) (B 6) (D 6)) ++ ((uX5 cs (Q 0 7) (Q 7) (F 7) (A 7) (B 7) (D 7)) ++ ((uX0 cs (Q 0 8) (Q 8) (F 8) (A 8) (B 8) (D 8)) ++ ((uX1 cs (Q 0 9) (Q 9) (F 9) (A 9) (B 9) (D 9)) ++ ((uX4 cs (Q 0 10) (Q 10) (F 10) (A 10) (B 10) (D 10)) ++ ((uX2 cs (Q 0 11) (Q 11) (F 11) (A 11) (B 11) (D 11)) ++ ((uX7 cs (Q 0 20) (Q 12) (F 12) (A 12) (B 12) (D 12)) ++ ((uX7 cs (Q 0 22) (Q 14) (F 14) (A 14) (B 14) (D 14)) ++ ((uX8 cs (Q 0 30) (Q 16) (F 16) (A 16) (B 16) (D 16)) ++ ((uX3 cs (Q 16 0) (Q 17) (F 17) (A 17) (B 17) (D 17)) ++ ((uX8 cs (Q 0 31) (Q 18) (F 18) (A 18) (B 18) (D 18)) ++ ((uX3 cs (Q 18 0) (Q 19) (F 19) (A 19) (B 19) (D 19)) ++ ((uX8 cs (Q 0 32) (Q 20) (F 20) (A 20) (B 20) (D 20)) ++ ((uX3 cs (Q 20 0) (Q 21) (F 21) (A 21) (B 21) (D 21)) ++ ((uX5 cs (Q 8 10) (Q 22) (F 22) (A 22) (B 22) (D 22)) ++ ((uX5 cs (Q 8 11) (Q 23) (F 23) (A 23) (B 23) (D 23)) ++ ((uX5 cs (Q 8 12) (Q 24) (F 24) (A 24) (B 24) (D 24)) ++ ((uX5 cs (Q 8 13) (Q 25) (F 25) (A 25) (B 25) (D 25)) ++ ((uX5 cs (Q 8 14) (Q 26) (F 26) (A 26) (B 26) (D 26)) ++ (mS cs h2 q2 MF MA MD MB)))))))))))))))))))))))))) (runVD (As := [.int 3, .int a2, .int 1, .int a4, .int a5]) (rest := []) ⟨hx, hb, hml, hown, ht⟩ (sX10_paste_3_1 l G cs h1 (Q 0) (F 0) (A 0) (B 0) (D 0) hX.1 (Q 15) (F 15) (A 15) (B 15) (D 15) hX.2.2.2.2.2.2.2.2.2.2.2.2.2.2.2.1 (Q 13) (F 13) (A 13) (B 13) (D 13) hX.2.2.2.2.2.2.2.2.2.2.2.2.2.1 a2 a4 a5) okV_RL_276 ⟨(Nat.le_of_ble_eq_true rfl), (Nat.le_of_ble_eq_true rfl)⟩ hK hP hD [0, 1, 2, 54, 55, 50, 51] rfl (by decide +kernel) rfl 0 rfl rfl hl.1 rfl (Nat.le_of_ble_eq_true rfl) dL_law_2119 ⟨(Nat.le_of_ble_eq_true rfl), (Nat.le_of_ble_eq_true rfl)⟩) hP hD hS (fun _ h => h) [0, 1, 2, 54, 55, 50, 51] [3, 4, 5, 6, 7, 8, 9, 10, 11, 12, 13, 14, 15, 16, 17, 18, 19, 20, 21, 22, 23, 24, 25, 26, 27, 28, 29, 30, 31, 32, 33, 34, 35, 36, 37, 38, 39, 40, 41, 42, 43, 44, 45, 46, 47, 48, 49, 52, 53, 56, 57, 58, 59, 60, 61, 62, 63, 64, 65, 66, 67, 68, 69, 70, 71, 72, 73, 74, 75, 76, 77, 78, 79, 80, 81, 82, 83, 84, 85, 86, 87, 88, 89, 90, 91, 92, 93, 94, 95, 96, 97, 98, 99, 100, 101, 102, 103, 104, 105, 106, 107, 108, 109, 110, 111, 112, 113, 114, 115, 116, 117, 118, 119, 120] rfl rfl (by decide +kernel) (by decide +kernel) (fun r9 u H locs hu hP hD hS => ?_)
      obtain ⟨y251, rfl⟩ : ∃ z, z = u := ⟨_, rfl⟩
      obtain ⟨r250, rfl⟩ : ∃ z, z = r9 := ⟨_, rfl⟩
      have hr250 := hu
      have kk252 : (3 : Int32).toInt = 3 := by decide
      have kk253 : (1 : Int32).toInt = 1 := by decide
      have hr250 : (((F 15 1).toInt = 0 ∨ (F 13 1).toInt = 0) ∧ r250.toInt = -6) ∨ (¬ (F 15 1).toInt = 0 ∧ ¬ (F 13 1).toInt = 0 ∧ ¬ (F 15 2).toInt = (F 13 2).toInt ∧ r250.toInt = -8) ∨ (¬ (F 15 1).toInt = 0 ∧ ¬ (F 13 1).toInt = 0 ∧ (F 15 2).toInt = (F 13 2).toInt ∧ (a2.toInt < 0 ∨ a4.toInt < 0 ∨ a5.toInt < 0 ∨ (F 15 3).toInt < a2.toInt + a5.toInt ∨ (F 13 3).toInt < a4.toInt + a5.toInt) ∧ r250.toInt = -7) ∨ (¬ (F 15 1).toInt = 0 ∧ ¬ (F 13 1).toInt = 0 ∧ (F 15 2).toInt = (F 13 2).toInt ∧ ¬ (a2.toInt < 0 ∨ a4.toInt < 0 ∨ a5.toInt < 0 ∨ (F 15 3).toInt < a2.toInt + a5.toInt ∨ (F 13 3).toInt < a4.toInt + a5.toInt) ∧ r250.toInt = 0) := hr250
      have hP : va_P G vwCl (LW cs h1 Q h2 q2 F A (vA B 13 (vA (B 13) 0 y251)) D MF MA MD MB) H := hP.sub [114, 115, 116, 0, 1, 2, 3, 4, 5, 6, 7, 8, 9, 10, 11, 12, 13, 14, 15, 16, 17, 18, 19, 20, 21, 22, 23, 24, 25, 26, 27, 28, 29, 30, 31, 32, 33, 34, 35, 36, 37, 38, 39, 40, 41, 42, 43, 44, 45, 46, 119, 120, 47, 48, 117, 118, 49, 50, 51, 52, 53, 54, 55, 56, 57, 58, 59, 60, 61, 62, 63, 64, 65, 66, 67, 68, 69, 70, 71, 72, 73, 74, 75, 76, 77, 78, 79, 80, 81, 82, 83, 84, 85, 86, 87, 88, 89, 90, 91, 92, 93, 94, 95, 96, 97, 98, 99, 100, 101, 102, 103, 104, 105, 106, 107, 108, 109, 110, 111, 112, 113] rfl
      have hD : va_D (fun q : Nat => s.heap.size ≤ q) (LW cs h1 Q h2 q2 F A (vA B 13 (vA (B 13) 0 y251)) D MF MA MD MB) := hD.sub [114, 115, 116, 0, 1, 2, 3, 4, 5, 6, 7, 8, 9, 10, 11, 12, 13, 14, 15, 16, 17, 18, 19, 20, 21, 22, 23, 24, 25, 26, 27, 28, 29, 30, 31, 32, 33, 34, 35, 36, 37, 38, 39, 40, 41, 42, 43, 44, 45, 46, 119, 120, 47, 48, 117, 118, 49, 50, 51, 52, 53, 54, 55, 56, 57, 58, 59, 60, 61, 62, 63, 64, 65, 66, 67, 68, 69, 70, 71, 72, 73, 74, 75, 76, 77, 78, 79, 80, 81, 82, 83, 84, 85, 86, 87, 88, 89, 90, 91, 92, 93, 94, 95, 96, 97, 98, 99, 100, 101, 102, 103, 104, 105, 106, 107, 108, 109, 110, 111, 112, 113] (by decide +kernel) rfl
      refine lv_pop hx hb dL_law_2122 rfl ?_
      refine lv_aload_n hx hb dL_law_2123 rfl (lv_at hl 1 rfl) ?_
      refine lv_aload_n hx hb dL_law_2124 rfl (lv_at hl 3 rfl) ?_
      refine lv_iload_n hx hb dL_law_2125 rfl (lv_at hl 0 rfl) ?_
      refine lv_iconst (v := 1) hx hb dL_law_2126 (by decide) ?_
      refine lv_iadd hx hb dL_law_2127 ?_
      refine va_sld hx hb hXs hbl hbA hS (inK t1 (by omega) (by omega)) dL_law_2128 ?_
      refine W.eq (g2 := F0 m 2129 ls [.int 3, .ref h2]) (by rw [← ea1]) ?_
      refine lv_aload_n hx hb dL_law_2129 rfl (lv_at hl 3 rfl) ?_
      refine lv_iload_n hx hb dL_law_2130 rfl (lv_at hl 0 rfl) ?_
      refine lv_iconst (v := 2) hx hb dL_law_2131 (by decide) ?_
      refine lv_iadd hx hb dL_law_2132 ?_
      refine va_sld hx hb hXs hbl hbA hS (inK t2 (by omega) (by omega)) dL_law_2133 ?_
      refine W.eq (g2 := F0 m 2134 ls [.int a2, .int 3, .ref h2]) (by rw [← ea2]) ?_
      refine lv_aload_n hx hb dL_law_2134 rfl (lv_at hl 3 rfl) ?_
      refine lv_iload_n hx hb dL_law_2135 rfl (lv_at hl 0 rfl) ?_
      refine lv_iconst (v := 3) hx hb dL_law_2136 (by decide) ?_
      refine lv_iadd hx hb dL_law_2137 ?_
      refine va_sld hx hb hXs hbl hbA hS (inK t3 (by omega) (by omega)) dL_law_2138 ?_
      refine W.eq (g2 := F0 m 2139 ls [.int 1, .int a2, .int 3, .ref h2]) (by rw [← ea3]) ?_
      refine lv_aload_n hx hb dL_law_2139 rfl (lv_at hl 3 rfl) ?_
      refine lv_iload_n hx hb dL_law_2140 rfl (lv_at hl 0 rfl) ?_
      refine lv_iconst (v := 4) hx hb dL_law_2141 (by decide) ?_
      refine lv_iadd hx hb dL_law_2142 ?_
      refine va_sld hx hb hXs hbl hbA hS (inK t4 (by omega) (by omega)) dL_law_2143 ?_
      refine W.eq (g2 := F0 m 2144 ls [.int a4, .int 1, .int a2, .int 3, .ref h2]) (by rw [← ea4]) ?_
      refine lv_aload_n hx hb dL_law_2144 rfl (lv_at hl 3 rfl) ?_
      refine lv_iload_n hx hb dL_law_2145 rfl (lv_at hl 0 rfl) ?_
      refine lv_iconst (v := 5) hx hb dL_law_2146 (by decide) ?_
      refine lv_iadd hx hb dL_law_2147 ?_
      refine va_sld hx hb hXs hbl hbA hS (inK t5 (by omega) (by omega)) dL_law_2148 ?_
      refine W.eq (g2 := F0 m 2149 ls [.int a5, .int a4, .int 1, .int a2, .int 3, .ref h2]) (by rw [← ea5]) ?_
      refine behDi (wr := (XLW cs h1 Q F A (vA B 13 (vA (B 13) 0 y251)) D)) (runVD (As := [.int 3, .int a2, .int 1, .int a4, .int a5]) (rest := []) ⟨hx, hb, hml, hown, ht⟩ (sX11_paste l G cs h2 q2 MF MA MD MB hM.1 3 a2 1 a4 a5) okV_RL_279 ⟨(Nat.le_of_ble_eq_true rfl), (Nat.le_of_ble_eq_true rfl)⟩ hK hP hD [101, 102, 103, 104, 105, 106, 107, 108, 109, 110, 111, 112, 113, 114, 115, 116, 117, 118, 119, 120] rfl (by decide +kernel) rfl 101 rfl rfl hl.1 rfl (Nat.le_of_ble_eq_true rfl) dL_law_2149 ⟨(Nat.le_of_ble_eq_true rfl), (Nat.le_of_ble_eq_true rfl)⟩) hP hD hS (fun _ h => h) [101, 102, 103, 104, 105, 106, 107, 108, 109, 110, 111, 112, 113, 114, 115, 116, 117, 118, 119, 120] [0, 1, 2, 3, 4, 5, 6, 7, 8, 9, 10, 11, 12, 13, 14, 15, 16, 17, 18, 19, 20, 21, 22, 23, 24, 25, 26, 27, 28, 29, 30, 31, 32, 33, 34, 35, 36, 37, 38, 39, 40, 41, 42, 43, 44, 45, 46, 47, 48, 49, 50, 51, 52, 53, 54, 55, 56, 57, 58, 59, 60, 61, 62, 63, 64, 65, 66, 67, 68, 69, 70, 71, 72, 73, 74, 75, 76, 77, 78, 79, 80, 81, 82, 83, 84, 85, 86, 87, 88, 89, 90, 91, 92, 93, 94, 95, 96, 97, 98, 99, 100] rfl rfl (by decide +kernel) (by decide +kernel) (fun r9 u H locs hu hP hD hS => ?_)
      obtain ⟨y255, y256⟩ := u
      obtain ⟨r254, rfl⟩ : ∃ z, z = r9 := ⟨_, rfl⟩
      have hr254 := hu
      have kk257 : (3 : Int32).toInt = 3 := by decide
      have kk258 : (1 : Int32).toInt = 1 := by decide
      have hr254 : (r254.toInt = -2 ∧ ((3 : Int32).toInt < 0 ∨ 3 < (3 : Int32).toInt ∨ (1 : Int32).toInt < 0 ∨ 3 < (1 : Int32).toInt)) ∨ ((0 ≤ (3 : Int32).toInt ∧ (3 : Int32).toInt ≤ 3) ∧ (0 ≤ (1 : Int32).toInt ∧ (1 : Int32).toInt ≤ 3) ∧ (((MA 31) (3 : Int32).toNatClampNeg).toInt = -1 ∨ ((MA 31) (1 : Int32).toNatClampNeg).toInt = -1) ∧ r254.toInt = -6) ∨ ((0 ≤ (3 : Int32).toInt ∧ (3 : Int32).toInt ≤ 3) ∧ (0 ≤ (1 : Int32).toInt ∧ (1 : Int32).toInt ≤ 3) ∧ ¬ ((MA 31) (3 : Int32).toNatClampNeg).toInt = -1 ∧ ¬ ((MA 31) (1 : Int32).toNatClampNeg).toInt = -1 ∧ ¬ ((MA 32) (3 : Int32).toNatClampNeg).toInt = ((MA 32) (1 : Int32).toNatClampNeg).toInt ∧ r254.toInt = -8) ∨ ((0 ≤ (3 : Int32).toInt ∧ (3 : Int32).toInt ≤ 3) ∧ (0 ≤ (1 : Int32).toInt ∧ (1 : Int32).toInt ≤ 3) ∧ ¬ ((MA 31) (3 : Int32).toNatClampNeg).toInt = -1 ∧ ¬ ((MA 31) (1 : Int32).toNatClampNeg).toInt = -1 ∧ ((MA 32) (3 : Int32).toNatClampNeg).toInt = ((MA 32) (1 : Int32).toNatClampNeg).toInt ∧ (a2.toInt < 0 ∨ a4.toInt < 0 ∨ a5.toInt < 0 ∨ ((MA 31) (3 : Int32).toNatClampNeg).toInt < a2.toInt + a5.toInt ∨ ((MA 31) (1 : Int32).toNatClampNeg).toInt < a4.toInt + a5.toInt) ∧ r254.toInt = -7) ∨ ((0 ≤ (3 : Int32).toInt ∧ (3 : Int32).toInt ≤ 3) ∧ (0 ≤ (1 : Int32).toInt ∧ (1 : Int32).toInt ≤ 3) ∧ ¬ ((MA 31) (3 : Int32).toNatClampNeg).toInt = -1 ∧ ¬ ((MA 31) (1 : Int32).toNatClampNeg).toInt = -1 ∧ ((MA 32) (3 : Int32).toNatClampNeg).toInt = ((MA 32) (1 : Int32).toNatClampNeg).toInt ∧ ¬ (a2.toInt < 0 ∨ a4.toInt < 0 ∨ a5.toInt < 0 ∨ ((MA 31) (3 : Int32).toNatClampNeg).toInt < a2.toInt + a5.toInt ∨ ((MA 31) (1 : Int32).toNatClampNeg).toInt < a4.toInt + a5.toInt) ∧ r254.toInt = 0) := hr254
      have hP : va_P G vwCl (LW cs h1 Q h2 q2 F A (vA B 13 (vA (B 13) 0 y251)) D MF MA MD (vA (vA MB 33 y255) 34 y256)) H := hP
      have hD : va_D (fun q : Nat => s.heap.size ≤ q) (LW cs h1 Q h2 q2 F A (vA B 13 (vA (B 13) 0 y251)) D MF MA MD (vA (vA MB 33 y255) 34 y256)) := hD
      have n31_1 : (MA 31 (1 : Int32).toNatClampNeg).toInt = (MA 31 1).toInt := congrArg (fun z => (MA 31 z).toInt) (show (1 : Int32).toNatClampNeg = 1 by decide)
      have n32_1 : (MA 32 (1 : Int32).toNatClampNeg).toInt = (MA 32 1).toInt := congrArg (fun z => (MA 32 z).toInt) (show (1 : Int32).toNatClampNeg = 1 by decide)
      have nsr_1 : ((F 13 1).toInt = 0 ∧ (MA 31 1).toInt = -1) ∨ (¬ (F 13 1).toInt = 0 ∧ (MA 31 1).toInt = (F 13 3).toInt ∧ 0 ≤ (F 13 3).toInt ∧ (MA 32 1).toInt = (F 13 2).toInt) := hR.2.2.2.2.1
      have n31_3 : (MA 31 (3 : Int32).toNatClampNeg).toInt = (MA 31 3).toInt := congrArg (fun z => (MA 31 z).toInt) (show (3 : Int32).toNatClampNeg = 3 by decide)
      have n32_3 : (MA 32 (3 : Int32).toNatClampNeg).toInt = (MA 32 3).toInt := congrArg (fun z => (MA 32 z).toInt) (show (3 : Int32).toNatClampNeg = 3 by decide)
      have nsr_3 : ((F 15 1).toInt = 0 ∧ (MA 31 3).toInt = -1) ∨ (¬ (F 15 1).toInt = 0 ∧ (MA 31 3).toInt = (F 15 3).toInt ∧ 0 ≤ (F 15 3).toInt ∧ (MA 32 3).toInt = (F 15 2).toInt) := hR.2.2.2.2.2.2
      refine lv_pop hx hb dL_law_2152 rfl ?_
      refine lv_goto (tgt := 2156) hx hb dL_law_2153 (by decide) ?_
      exact kk F A (vA B 13 (vA (B 13) 0 y251)) D MF MA MD (vA (vA MB 33 y255) 34 y256) H locs ls ⟨hX.1, hX.2.1, hX.2.2.1, hX.2.2.2.1, hX.2.2.2.2.1, hX.2.2.2.2.2.1, hX.2.2.2.2.2.2.1, hX.2.2.2.2.2.2.2.1, hX.2.2.2.2.2.2.2.2.1, hX.2.2.2.2.2.2.2.2.2.1, hX.2.2.2.2.2.2.2.2.2.2.1, hX.2.2.2.2.2.2.2.2.2.2.2.1, hX.2.2.2.2.2.2.2.2.2.2.2.2.1, hX.2.2.2.2.2.2.2.2.2.2.2.2.2.1, hX.2.2.2.2.2.2.2.2.2.2.2.2.2.2.1, hX.2.2.2.2.2.2.2.2.2.2.2.2.2.2.2.1, hX.2.2.2.2.2.2.2.2.2.2.2.2.2.2.2.2.1, hX.2.2.2.2.2.2.2.2.2.2.2.2.2.2.2.2.2.1, hX.2.2.2.2.2.2.2.2.2.2.2.2.2.2.2.2.2.2.1, hX.2.2.2.2.2.2.2.2.2.2.2.2.2.2.2.2.2.2.2.1, hX.2.2.2.2.2.2.2.2.2.2.2.2.2.2.2.2.2.2.2.2.1, hX.2.2.2.2.2.2.2.2.2.2.2.2.2.2.2.2.2.2.2.2.2.1, hX.2.2.2.2.2.2.2.2.2.2.2.2.2.2.2.2.2.2.2.2.2.2.1, hX.2.2.2.2.2.2.2.2.2.2.2.2.2.2.2.2.2.2.2.2.2.2.2.1, hX.2.2.2.2.2.2.2.2.2.2.2.2.2.2.2.2.2.2.2.2.2.2.2.2.1, hX.2.2.2.2.2.2.2.2.2.2.2.2.2.2.2.2.2.2.2.2.2.2.2.2.2.1, hX.2.2.2.2.2.2.2.2.2.2.2.2.2.2.2.2.2.2.2.2.2.2.2.2.2.2⟩ ⟨hM.1, hM.2.1, hM.2.2⟩ hR hP hD hS hl
    · refine behDi (wr := ((uX6 cs (Q 0 0) (fun _ => Q 0 1) (F 1) (A 1) (B 1) (D 1)) ++ ((uX9 cs (Q 0 1) (Q 2) (F 2) (A 2) (B 2) (D 2)) ++ ((uX3 cs (Q 0 2) (Q 3) (F 3) (A 3) (B 3) (D 3)) ++ ((uX8 cs (Q 0 3) (Q 4) (F 4) (A 4) (B 4) (D 4)) ++ ((uX3 cs (Q 4 0) (Q 5) (F 5) (A 5) (B 5) (D 5)) ++ ((uX5 cs (Q 0 6) (Q 6) (F 6) (A 6) (B 6) (D 6)) ++ ((uX5 cs (Q 0 7) (Q 7) (F 7) (A 7) (B 7) (D 7)) ++ ((uX0 cs (Q 0 8) (Q 8) (F 8) (A 8) (B 8) (D 8)) ++ ((uX1 cs (Q 0 9) (Q 9) (F 9) (A 9) (B 9) (D 9)) ++ ((uX4 cs (Q 0 10) (Q 10) (F 10) (A 10) (B 10) (D 10)) ++ ((uX2 cs (Q 0 11) (Q 11) (F 11) (A 11) (B 11) (D 11)) ++ ((uX7 cs (Q 0 20) (Q 12) (F 12) (A 12) (B 12) (D 12)) ++ ((uX7 cs (Q 0 21) (Q 13) (F 13) (A 13) (B 13) (D 13)) ++ ((uX8 cs (Q 0 30) (Q 16) (F 16) (A 16) (B 16) (D 16)) ++ ((uX3 cs (Q 16 0) (Q 17) (F 17) (A 17) (B 17) (D 17)) ++ ((uX8 cs (Q 0 31) (Q 18) (F 18) (A 18) (B 18) (D 18)) ++ ((uX3 cs (Q 18 0) (Q 19) (F 19) (A 19) (B 19) (D 19)) ++ ((uX8 cs (Q 0 32) (Q 20) (F 20) (A 20) (B 20) (D 20)) ++ ((uX3 cs (Q 20 0) (Q 21) (F 21) (A 21) (B 21) (D 21)) ++ ((uX5 cs (Q 8 10) (Q 22) (F 22) (A 22) (B 22) (D 22)) ++ ((uX5 cs (Q 8 11) (Q 23) (F 23) (A 23) (B 23) (D 23)) ++ ((uX5 cs (Q 8 12) (Q 24) (F 24) (A 24) (B 24) (D 24)) ++ ((uX5 cs (Q 8 13) (Q 25) (F 25) (A 25) (B 25) (D 25)) ++ ((uX5 cs (Q 8 14) (Q 26) (F 26) (A 26) (B 26) (D 26)) ++ (mS cs h2 q2 MF MA MD MB)))))))))))))))))))))))))) (runVD (As := [.int 3, .int a2, .int 2, .int a4, .int a5]) (rest := []) ⟨hx, hb, hml, hown, ht⟩ (sX10_paste_3_2 l G cs h1 (Q 0) (F 0) (A 0) (B 0) (D 0) hX.1 (Q 15) (F 15) (A 15) (B 15) (D 15) hX.2.2.2.2.2.2.2.2.2.2.2.2.2.2.2.1 (Q 14) (F 14) (A 14) (B 14) (D 14) hX.2.2.2.2.2.2.2.2.2.2.2.2.2.2.1 a2 a4 a5) okV_RL_276 ⟨(Nat.le_of_ble_eq_true rfl), (Nat.le_of_ble_eq_true rfl)⟩ hK hP hD [0, 1, 2, 54, 55, 52, 53] rfl (by decide +kernel) rfl 0 rfl rfl hl.1 rfl (Nat.le_of_ble_eq_true rfl) dL_law_2119 ⟨(Nat.le_of_ble_eq_true rfl), (Nat.le_of_ble_eq_true rfl)⟩) hP hD hS (fun _ h => h) [0, 1, 2, 54, 55, 52, 53] [3, 4, 5, 6, 7, 8, 9, 10, 11, 12, 13, 14, 15, 16, 17, 18, 19, 20, 21, 22, 23, 24, 25, 26, 27, 28, 29, 30, 31, 32, 33, 34, 35, 36, 37, 38, 39, 40, 41, 42, 43, 44, 45, 46, 47, 48, 49, 50, 51, 56, 57, 58, 59, 60, 61, 62, 63, 64, 65, 66, 67, 68, 69, 70, 71, 72, 73, 74, 75, 76, 77, 78, 79, 80, 81, 82, 83, 84, 85, 86, 87, 88, 89, 90, 91, 92, 93, 94, 95, 96, 97, 98, 99, 100, 101, 102, 103, 104, 105, 106, 107, 108, 109, 110, 111, 112, 113, 114, 115, 116, 117, 118, 119, 120] rfl rfl (by decide +kernel) (by decide +kernel) (fun r9 u H locs hu hP hD hS => ?_)
      obtain ⟨y260, rfl⟩ : ∃ z, z = u := ⟨_, rfl⟩
      obtain ⟨r259, rfl⟩ : ∃ z, z = r9 := ⟨_, rfl⟩
      have hr259 := hu
      have kk261 : (3 : Int32).toInt = 3 := by decide
      have kk262 : (2 : Int32).toInt = 2 := by decide
      have hr259 : (((F 15 1).toInt = 0 ∨ (F 14 1).toInt = 0) ∧ r259.toInt = -6) ∨ (¬ (F 15 1).toInt = 0 ∧ ¬ (F 14 1).toInt = 0 ∧ ¬ (F 15 2).toInt = (F 14 2).toInt ∧ r259.toInt = -8) ∨ (¬ (F 15 1).toInt = 0 ∧ ¬ (F 14 1).toInt = 0 ∧ (F 15 2).toInt = (F 14 2).toInt ∧ (a2.toInt < 0 ∨ a4.toInt < 0 ∨ a5.toInt < 0 ∨ (F 15 3).toInt < a2.toInt + a5.toInt ∨ (F 14 3).toInt < a4.toInt + a5.toInt) ∧ r259.toInt = -7) ∨ (¬ (F 15 1).toInt = 0 ∧ ¬ (F 14 1).toInt = 0 ∧ (F 15 2).toInt = (F 14 2).toInt ∧ ¬ (a2.toInt < 0 ∨ a4.toInt < 0 ∨ a5.toInt < 0 ∨ (F 15 3).toInt < a2.toInt + a5.toInt ∨ (F 14 3).toInt < a4.toInt + a5.toInt) ∧ r259.toInt = 0) := hr259
      have hP : va_P G vwCl (LW cs h1 Q h2 q2 F A (vA B 14 (vA (B 14) 0 y260)) D MF MA MD MB) H := hP.sub [114, 115, 116, 0, 1, 2, 3, 4, 5, 6, 7, 8, 9, 10, 11, 12, 13, 14, 15, 16, 17, 18, 19, 20, 21, 22, 23, 24, 25, 26, 27, 28, 29, 30, 31, 32, 33, 34, 35, 36, 37, 38, 39, 40, 41, 42, 43, 44, 45, 46, 47, 48, 119, 120, 117, 118, 49, 50, 51, 52, 53, 54, 55, 56, 57, 58, 59, 60, 61, 62, 63, 64, 65, 66, 67, 68, 69, 70, 71, 72, 73, 74, 75, 76, 77, 78, 79, 80, 81, 82, 83, 84, 85, 86, 87, 88, 89, 90, 91, 92, 93, 94, 95, 96, 97, 98, 99, 100, 101, 102, 103, 104, 105, 106, 107, 108, 109, 110, 111, 112, 113] rfl
      have hD : va_D (fun q : Nat => s.heap.size ≤ q) (LW cs h1 Q h2 q2 F A (vA B 14 (vA (B 14) 0 y260)) D MF MA MD MB) := hD.sub [114, 115, 116, 0, 1, 2, 3, 4, 5, 6, 7, 8, 9, 10, 11, 12, 13, 14, 15, 16, 17, 18, 19, 20, 21, 22, 23, 24, 25, 26, 27, 28, 29, 30, 31, 32, 33, 34, 35, 36, 37, 38, 39, 40, 41, 42, 43, 44, 45, 46, 47, 48, 119, 120, 117, 118, 49, 50, 51, 52, 53, 54, 55, 56, 57, 58, 59, 60, 61, 62, 63, 64, 65, 66, 67, 68, 69, 70, 71, 72, 73, 74, 75, 76, 77, 78, 79, 80, 81, 82, 83, 84, 85, 86, 87, 88, 89, 90, 91, 92, 93, 94, 95, 96, 97, 98, 99, 100, 101, 102, 103, 104, 105, 106, 107, 108, 109, 110, 111, 112, 113] (by decide +kernel) rfl
      refine lv_pop hx hb dL_law_2122 rfl ?_
      refine lv_aload_n hx hb dL_law_2123 rfl (lv_at hl 1 rfl) ?_
      refine lv_aload_n hx hb dL_law_2124 rfl (lv_at hl 3 rfl) ?_
      refine lv_iload_n hx hb dL_law_2125 rfl (lv_at hl 0 rfl) ?_
      refine lv_iconst (v := 1) hx hb dL_law_2126 (by decide) ?_
      refine lv_iadd hx hb dL_law_2127 ?_
      refine va_sld hx hb hXs hbl hbA hS (inK t1 (by omega) (by omega)) dL_law_2128 ?_
      refine W.eq (g2 := F0 m 2129 ls [.int 3, .ref h2]) (by rw [← ea1]) ?_
      refine lv_aload_n hx hb dL_law_2129 rfl (lv_at hl 3 rfl) ?_
      refine lv_iload_n hx hb dL_law_2130 rfl (lv_at hl 0 rfl) ?_
      refine lv_iconst (v := 2) hx hb dL_law_2131 (by decide) ?_
      refine lv_iadd hx hb dL_law_2132 ?_
      refine va_sld hx hb hXs hbl hbA hS (inK t2 (by omega) (by omega)) dL_law_2133 ?_
      refine W.eq (g2 := F0 m 2134 ls [.int a2, .int 3, .ref h2]) (by rw [← ea2]) ?_
      refine lv_aload_n hx hb dL_law_2134 rfl (lv_at hl 3 rfl) ?_
      refine lv_iload_n hx hb dL_law_2135 rfl (lv_at hl 0 rfl) ?_
      refine lv_iconst (v := 3) hx hb dL_law_2136 (by decide) ?_
      refine lv_iadd hx hb dL_law_2137 ?_
      refine va_sld hx hb hXs hbl hbA hS (inK t3 (by omega) (by omega)) dL_law_2138 ?_
      refine W.eq (g2 := F0 m 2139 ls [.int 2, .int a2, .int 3, .ref h2]) (by rw [← ea3]) ?_
      refine lv_aload_n hx hb dL_law_2139 rfl (lv_at hl 3 rfl) ?_
      refine lv_iload_n hx hb dL_law_2140 rfl (lv_at hl 0 rfl) ?_
      refine lv_iconst (v := 4) hx hb dL_law_2141 (by decide) ?_
      refine lv_iadd hx hb dL_law_2142 ?_
      refine va_sld hx hb hXs hbl hbA hS (inK t4 (by omega) (by omega)) dL_law_2143 ?_
      refine W.eq (g2 := F0 m 2144 ls [.int a4, .int 2, .int a2, .int 3, .ref h2]) (by rw [← ea4]) ?_
      refine lv_aload_n hx hb dL_law_2144 rfl (lv_at hl 3 rfl) ?_
      refine lv_iload_n hx hb dL_law_2145 rfl (lv_at hl 0 rfl) ?_
      refine lv_iconst (v := 5) hx hb dL_law_2146 (by decide) ?_
      refine lv_iadd hx hb dL_law_2147 ?_
      refine va_sld hx hb hXs hbl hbA hS (inK t5 (by omega) (by omega)) dL_law_2148 ?_
      refine W.eq (g2 := F0 m 2149 ls [.int a5, .int a4, .int 2, .int a2, .int 3, .ref h2]) (by rw [← ea5]) ?_
      refine behDi (wr := (XLW cs h1 Q F A (vA B 14 (vA (B 14) 0 y260)) D)) (runVD (As := [.int 3, .int a2, .int 2, .int a4, .int a5]) (rest := []) ⟨hx, hb, hml, hown, ht⟩ (sX11_paste l G cs h2 q2 MF MA MD MB hM.1 3 a2 2 a4 a5) okV_RL_279 ⟨(Nat.le_of_ble_eq_true rfl), (Nat.le_of_ble_eq_true rfl)⟩ hK hP hD [101, 102, 103, 104, 105, 106, 107, 108, 109, 110, 111, 112, 113, 114, 115, 116, 117, 118, 119, 120] rfl (by decide +kernel) rfl 101 rfl rfl hl.1 rfl (Nat.le_of_ble_eq_true rfl) dL_law_2149 ⟨(Nat.le_of_ble_eq_true rfl), (Nat.le_of_ble_eq_true rfl)⟩) hP hD hS (fun _ h => h) [101, 102, 103, 104, 105, 106, 107, 108, 109, 110, 111, 112, 113, 114, 115, 116, 117, 118, 119, 120] [0, 1, 2, 3, 4, 5, 6, 7, 8, 9, 10, 11, 12, 13, 14, 15, 16, 17, 18, 19, 20, 21, 22, 23, 24, 25, 26, 27, 28, 29, 30, 31, 32, 33, 34, 35, 36, 37, 38, 39, 40, 41, 42, 43, 44, 45, 46, 47, 48, 49, 50, 51, 52, 53, 54, 55, 56, 57, 58, 59, 60, 61, 62, 63, 64, 65, 66, 67, 68, 69, 70, 71, 72, 73, 74, 75, 76, 77, 78, 79, 80, 81, 82, 83, 84, 85, 86, 87, 88, 89, 90, 91, 92, 93, 94, 95, 96, 97, 98, 99, 100] rfl rfl (by decide +kernel) (by decide +kernel) (fun r9 u H locs hu hP hD hS => ?_)
      obtain ⟨y264, y265⟩ := u
      obtain ⟨r263, rfl⟩ : ∃ z, z = r9 := ⟨_, rfl⟩
      have hr263 := hu
      have kk266 : (3 : Int32).toInt = 3 := by decide
      have kk267 : (2 : Int32).toInt = 2 := by decide
      have hr263 : (r263.toInt = -2 ∧ ((3 : Int32).toInt < 0 ∨ 3 < (3 : Int32).toInt ∨ (2 : Int32).toInt < 0 ∨ 3 < (2 : Int32).toInt)) ∨ ((0 ≤ (3 : Int32).toInt ∧ (3 : Int32).toInt ≤ 3) ∧ (0 ≤ (2 : Int32).toInt ∧ (2 : Int32).toInt ≤ 3) ∧ (((MA 31) (3 : Int32).toNatClampNeg).toInt = -1 ∨ ((MA 31) (2 : Int32).toNatClampNeg).toInt = -1) ∧ r263.toInt = -6) ∨ ((0 ≤ (3 : Int32).toInt ∧ (3 : Int32).toInt ≤ 3) ∧ (0 ≤ (2 : Int32).toInt ∧ (2 : Int32).toInt ≤ 3) ∧ ¬ ((MA 31) (3 : Int32).toNatClampNeg).toInt = -1 ∧ ¬ ((MA 31) (2 : Int32).toNatClampNeg).toInt = -1 ∧ ¬ ((MA 32) (3 : Int32).toNatClampNeg).toInt = ((MA 32) (2 : Int32).toNatClampNeg).toInt ∧ r263.toInt = -8) ∨ ((0 ≤ (3 : Int32).toInt ∧ (3 : Int32).toInt ≤ 3) ∧ (0 ≤ (2 : Int32).toInt ∧ (2 : Int32).toInt ≤ 3) ∧ ¬ ((MA 31) (3 : Int32).toNatClampNeg).toInt = -1 ∧ ¬ ((MA 31) (2 : Int32).toNatClampNeg).toInt = -1 ∧ ((MA 32) (3 : Int32).toNatClampNeg).toInt = ((MA 32) (2 : Int32).toNatClampNeg).toInt ∧ (a2.toInt < 0 ∨ a4.toInt < 0 ∨ a5.toInt < 0 ∨ ((MA 31) (3 : Int32).toNatClampNeg).toInt < a2.toInt + a5.toInt ∨ ((MA 31) (2 : Int32).toNatClampNeg).toInt < a4.toInt + a5.toInt) ∧ r263.toInt = -7) ∨ ((0 ≤ (3 : Int32).toInt ∧ (3 : Int32).toInt ≤ 3) ∧ (0 ≤ (2 : Int32).toInt ∧ (2 : Int32).toInt ≤ 3) ∧ ¬ ((MA 31) (3 : Int32).toNatClampNeg).toInt = -1 ∧ ¬ ((MA 31) (2 : Int32).toNatClampNeg).toInt = -1 ∧ ((MA 32) (3 : Int32).toNatClampNeg).toInt = ((MA 32) (2 : Int32).toNatClampNeg).toInt ∧ ¬ (a2.toInt < 0 ∨ a4.toInt < 0 ∨ a5.toInt < 0 ∨ ((MA 31) (3 : Int32).toNatClampNeg).toInt < a2.toInt + a5.toInt ∨ ((MA 31) (2 : Int32).toNatClampNeg).toInt < a4.toInt + a5.toInt) ∧ r263.toInt = 0) := hr263
      have hP : va_P G vwCl (LW cs h1 Q h2 q2 F A (vA B 14 (vA (B 14) 0 y260)) D MF MA MD (vA (vA MB 33 y264) 34 y265)) H := hP
      have hD : va_D (fun q : Nat => s.heap.size ≤ q) (LW cs h1 Q h2 q2 F A (vA B 14 (vA (B 14) 0 y260)) D MF MA MD (vA (vA MB 33 y264) 34 y265)) := hD
      have n31_2 : (MA 31 (2 : Int32).toNatClampNeg).toInt = (MA 31 2).toInt := congrArg (fun z => (MA 31 z).toInt) (show (2 : Int32).toNatClampNeg = 2 by decide)
      have n32_2 : (MA 32 (2 : Int32).toNatClampNeg).toInt = (MA 32 2).toInt := congrArg (fun z => (MA 32 z).toInt) (show (2 : Int32).toNatClampNeg = 2 by decide)
      have nsr_2 : ((F 14 1).toInt = 0 ∧ (MA 31 2).toInt = -1) ∨ (¬ (F 14 1).toInt = 0 ∧ (MA 31 2).toInt = (F 14 3).toInt ∧ 0 ≤ (F 14 3).toInt ∧ (MA 32 2).toInt = (F 14 2).toInt) := hR.2.2.2.2.2.1
      have n31_3 : (MA 31 (3 : Int32).toNatClampNeg).toInt = (MA 31 3).toInt := congrArg (fun z => (MA 31 z).toInt) (show (3 : Int32).toNatClampNeg = 3 by decide)
      have n32_3 : (MA 32 (3 : Int32).toNatClampNeg).toInt = (MA 32 3).toInt := congrArg (fun z => (MA 32 z).toInt) (show (3 : Int32).toNatClampNeg = 3 by decide)
      have nsr_3 : ((F 15 1).toInt = 0 ∧ (MA 31 3).toInt = -1) ∨ (¬ (F 15 1).toInt = 0 ∧ (MA 31 3).toInt = (F 15 3).toInt ∧ 0 ≤ (F 15 3).toInt ∧ (MA 32 3).toInt = (F 15 2).toInt) := hR.2.2.2.2.2.2
      refine lv_pop hx hb dL_law_2152 rfl ?_
      refine lv_goto (tgt := 2156) hx hb dL_law_2153 (by decide) ?_
      exact kk F A (vA B 14 (vA (B 14) 0 y260)) D MF MA MD (vA (vA MB 33 y264) 34 y265) H locs ls ⟨hX.1, hX.2.1, hX.2.2.1, hX.2.2.2.1, hX.2.2.2.2.1, hX.2.2.2.2.2.1, hX.2.2.2.2.2.2.1, hX.2.2.2.2.2.2.2.1, hX.2.2.2.2.2.2.2.2.1, hX.2.2.2.2.2.2.2.2.2.1, hX.2.2.2.2.2.2.2.2.2.2.1, hX.2.2.2.2.2.2.2.2.2.2.2.1, hX.2.2.2.2.2.2.2.2.2.2.2.2.1, hX.2.2.2.2.2.2.2.2.2.2.2.2.2.1, hX.2.2.2.2.2.2.2.2.2.2.2.2.2.2.1, hX.2.2.2.2.2.2.2.2.2.2.2.2.2.2.2.1, hX.2.2.2.2.2.2.2.2.2.2.2.2.2.2.2.2.1, hX.2.2.2.2.2.2.2.2.2.2.2.2.2.2.2.2.2.1, hX.2.2.2.2.2.2.2.2.2.2.2.2.2.2.2.2.2.2.1, hX.2.2.2.2.2.2.2.2.2.2.2.2.2.2.2.2.2.2.2.1, hX.2.2.2.2.2.2.2.2.2.2.2.2.2.2.2.2.2.2.2.2.1, hX.2.2.2.2.2.2.2.2.2.2.2.2.2.2.2.2.2.2.2.2.2.1, hX.2.2.2.2.2.2.2.2.2.2.2.2.2.2.2.2.2.2.2.2.2.2.1, hX.2.2.2.2.2.2.2.2.2.2.2.2.2.2.2.2.2.2.2.2.2.2.2.1, hX.2.2.2.2.2.2.2.2.2.2.2.2.2.2.2.2.2.2.2.2.2.2.2.2.1, hX.2.2.2.2.2.2.2.2.2.2.2.2.2.2.2.2.2.2.2.2.2.2.2.2.2.1, hX.2.2.2.2.2.2.2.2.2.2.2.2.2.2.2.2.2.2.2.2.2.2.2.2.2.2⟩ ⟨hM.1, hM.2.1, hM.2.2⟩ hR hP hD hS hl
    · refine behDi (wr := ((uX6 cs (Q 0 0) (fun _ => Q 0 1) (F 1) (A 1) (B 1) (D 1)) ++ ((uX9 cs (Q 0 1) (Q 2) (F 2) (A 2) (B 2) (D 2)) ++ ((uX3 cs (Q 0 2) (Q 3) (F 3) (A 3) (B 3) (D 3)) ++ ((uX8 cs (Q 0 3) (Q 4) (F 4) (A 4) (B 4) (D 4)) ++ ((uX3 cs (Q 4 0) (Q 5) (F 5) (A 5) (B 5) (D 5)) ++ ((uX5 cs (Q 0 6) (Q 6) (F 6) (A 6) (B 6) (D 6)) ++ ((uX5 cs (Q 0 7) (Q 7) (F 7) (A 7) (B 7) (D 7)) ++ ((uX0 cs (Q 0 8) (Q 8) (F 8) (A 8) (B 8) (D 8)) ++ ((uX1 cs (Q 0 9) (Q 9) (F 9) (A 9) (B 9) (D 9)) ++ ((uX4 cs (Q 0 10) (Q 10) (F 10) (A 10) (B 10) (D 10)) ++ ((uX2 cs (Q 0 11) (Q 11) (F 11) (A 11) (B 11) (D 11)) ++ ((uX7 cs (Q 0 20) (Q 12) (F 12) (A 12) (B 12) (D 12)) ++ ((uX7 cs (Q 0 21) (Q 13) (F 13) (A 13) (B 13) (D 13)) ++ ((uX7 cs (Q 0 22) (Q 14) (F 14) (A 14) (B 14) (D 14)) ++ ((uX8 cs (Q 0 30) (Q 16) (F 16) (A 16) (B 16) (D 16)) ++ ((uX3 cs (Q 16 0) (Q 17) (F 17) (A 17) (B 17) (D 17)) ++ ((uX8 cs (Q 0 31) (Q 18) (F 18) (A 18) (B 18) (D 18)) ++ ((uX3 cs (Q 18 0) (Q 19) (F 19) (A 19) (B 19) (D 19)) ++ ((uX8 cs (Q 0 32) (Q 20) (F 20) (A 20) (B 20) (D 20)) ++ ((uX3 cs (Q 20 0) (Q 21) (F 21) (A 21) (B 21) (D 21)) ++ ((uX5 cs (Q 8 10) (Q 22) (F 22) (A 22) (B 22) (D 22)) ++ ((uX5 cs (Q 8 11) (Q 23) (F 23) (A 23) (B 23) (D 23)) ++ ((uX5 cs (Q 8 12) (Q 24) (F 24) (A 24) (B 24) (D 24)) ++ ((uX5 cs (Q 8 13) (Q 25) (F 25) (A 25) (B 25) (D 25)) ++ ((uX5 cs (Q 8 14) (Q 26) (F 26) (A 26) (B 26) (D 26)) ++ (mS cs h2 q2 MF MA MD MB))))))))))))))))))))))))))) (runVD (As := [.int 3, .int a2, .int 3, .int a4, .int a5]) (rest := []) ⟨hx, hb, hml, hown, ht⟩ (sX10_paste_3_3 l G cs h1 (Q 0) (F 0) (A 0) (B 0) (D 0) hX.1 (Q 15) (F 15) (A 15) (B 15) (D 15) hX.2.2.2.2.2.2.2.2.2.2.2.2.2.2.2.1 a2 a4 a5) okV_RL_276 ⟨(Nat.le_of_ble_eq_true rfl), (Nat.le_of_ble_eq_true rfl)⟩ hK hP hD [0, 1, 2, 54, 55] rfl (by decide +kernel) rfl 0 rfl rfl hl.1 rfl (Nat.le_of_ble_eq_true rfl) dL_law_2119 ⟨(Nat.le_of_ble_eq_true rfl), (Nat.le_of_ble_eq_true rfl)⟩) hP hD hS (fun _ h => h) [0, 1, 2, 54, 55] [3, 4, 5, 6, 7, 8, 9, 10, 11, 12, 13, 14, 15, 16, 17, 18, 19, 20, 21, 22, 23, 24, 25, 26, 27, 28, 29, 30, 31, 32, 33, 34, 35, 36, 37, 38, 39, 40, 41, 42, 43, 44, 45, 46, 47, 48, 49, 50, 51, 52, 53, 56, 57, 58, 59, 60, 61, 62, 63, 64, 65, 66, 67, 68, 69, 70, 71, 72, 73, 74, 75, 76, 77, 78, 79, 80, 81, 82, 83, 84, 85, 86, 87, 88, 89, 90, 91, 92, 93, 94, 95, 96, 97, 98, 99, 100, 101, 102, 103, 104, 105, 106, 107, 108, 109, 110, 111, 112, 113, 114, 115, 116, 117, 118, 119, 120] rfl rfl (by decide +kernel) (by decide +kernel) (fun r9 u H locs hu hP hD hS => ?_)
      obtain ⟨y269, rfl⟩ : ∃ z, z = u := ⟨_, rfl⟩
      obtain ⟨r268, rfl⟩ : ∃ z, z = r9 := ⟨_, rfl⟩
      have hr268 := hu
      have kk270 : (3 : Int32).toInt = 3 := by decide
      have kk271 : (3 : Int32).toInt = 3 := by decide
      have hr268 : (((F 15 1).toInt = 0 ∨ (F 15 1).toInt = 0) ∧ r268.toInt = -6) ∨ (¬ (F 15 1).toInt = 0 ∧ ¬ (F 15 1).toInt = 0 ∧ ¬ (F 15 2).toInt = (F 15 2).toInt ∧ r268.toInt = -8) ∨ (¬ (F 15 1).toInt = 0 ∧ ¬ (F 15 1).toInt = 0 ∧ (F 15 2).toInt = (F 15 2).toInt ∧ (a2.toInt < 0 ∨ a4.toInt < 0 ∨ a5.toInt < 0 ∨ (F 15 3).toInt < a2.toInt + a5.toInt ∨ (F 15 3).toInt < a4.toInt + a5.toInt) ∧ r268.toInt = -7) ∨ (¬ (F 15 1).toInt = 0 ∧ ¬ (F 15 1).toInt = 0 ∧ (F 15 2).toInt = (F 15 2).toInt ∧ ¬ (a2.toInt < 0 ∨ a4.toInt < 0 ∨ a5.toInt < 0 ∨ (F 15 3).toInt < a2.toInt + a5.toInt ∨ (F 15 3).toInt < a4.toInt + a5.toInt) ∧ r268.toInt = 0) := hr268
      have hP : va_P G vwCl (LW cs h1 Q h2 q2 F A (vA B 15 (vA (B 15) 0 y269)) D MF MA MD MB) H := hP.sub [116, 117, 118, 0, 1, 2, 3, 4, 5, 6, 7, 8, 9, 10, 11, 12, 13, 14, 15, 16, 17, 18, 19, 20, 21, 22, 23, 24, 25, 26, 27, 28, 29, 30, 31, 32, 33, 34, 35, 36, 37, 38, 39, 40, 41, 42, 43, 44, 45, 46, 47, 48, 49, 50, 119, 120, 51, 52, 53, 54, 55, 56, 57, 58, 59, 60, 61, 62, 63, 64, 65, 66, 67, 68, 69, 70, 71, 72, 73, 74, 75, 76, 77, 78, 79, 80, 81, 82, 83, 84, 85, 86, 87, 88, 89, 90, 91, 92, 93, 94, 95, 96, 97, 98, 99, 100, 101, 102, 103, 104, 105, 106, 107, 108, 109, 110, 111, 112, 113, 114, 115] rfl
      have hD : va_D (fun q : Nat => s.heap.size ≤ q) (LW cs h1 Q h2 q2 F A (vA B 15 (vA (B 15) 0 y269)) D MF MA MD MB) := hD.sub [116, 117, 118, 0, 1, 2, 3, 4, 5, 6, 7, 8, 9, 10, 11, 12, 13, 14, 15, 16, 17, 18, 19, 20, 21, 22, 23, 24, 25, 26, 27, 28, 29, 30, 31, 32, 33, 34, 35, 36, 37, 38, 39, 40, 41, 42, 43, 44, 45, 46, 47, 48, 49, 50, 119, 120, 51, 52, 53, 54, 55, 56, 57, 58, 59, 60, 61, 62, 63, 64, 65, 66, 67, 68, 69, 70, 71, 72, 73, 74, 75, 76, 77, 78, 79, 80, 81, 82, 83, 84, 85, 86, 87, 88, 89, 90, 91, 92, 93, 94, 95, 96, 97, 98, 99, 100, 101, 102, 103, 104, 105, 106, 107, 108, 109, 110, 111, 112, 113, 114, 115] (by decide +kernel) rfl
      refine lv_pop hx hb dL_law_2122 rfl ?_
      refine lv_aload_n hx hb dL_law_2123 rfl (lv_at hl 1 rfl) ?_
      refine lv_aload_n hx hb dL_law_2124 rfl (lv_at hl 3 rfl) ?_
      refine lv_iload_n hx hb dL_law_2125 rfl (lv_at hl 0 rfl) ?_
      refine lv_iconst (v := 1) hx hb dL_law_2126 (by decide) ?_
      refine lv_iadd hx hb dL_law_2127 ?_
      refine va_sld hx hb hXs hbl hbA hS (inK t1 (by omega) (by omega)) dL_law_2128 ?_
      refine W.eq (g2 := F0 m 2129 ls [.int 3, .ref h2]) (by rw [← ea1]) ?_
      refine lv_aload_n hx hb dL_law_2129 rfl (lv_at hl 3 rfl) ?_
      refine lv_iload_n hx hb dL_law_2130 rfl (lv_at hl 0 rfl) ?_
      refine lv_iconst (v := 2) hx hb dL_law_2131 (by decide) ?_
      refine lv_iadd hx hb dL_law_2132 ?_
      refine va_sld hx hb hXs hbl hbA hS (inK t2 (by omega) (by omega)) dL_law_2133 ?_
      refine W.eq (g2 := F0 m 2134 ls [.int a2, .int 3, .ref h2]) (by rw [← ea2]) ?_
      refine lv_aload_n hx hb dL_law_2134 rfl (lv_at hl 3 rfl) ?_
      refine lv_iload_n hx hb dL_law_2135 rfl (lv_at hl 0 rfl) ?_
      refine lv_iconst (v := 3) hx hb dL_law_2136 (by decide) ?_
      refine lv_iadd hx hb dL_law_2137 ?_
      refine va_sld hx hb hXs hbl hbA hS (inK t3 (by omega) (by omega)) dL_law_2138 ?_
      refine W.eq (g2 := F0 m 2139 ls [.int 3, .int a2, .int 3, .ref h2]) (by rw [← ea3]) ?_
      refine lv_aload_n hx hb dL_law_2139 rfl (lv_at hl 3 rfl) ?_
      refine lv_iload_n hx hb dL_law_2140 rfl (lv_at hl 0 rfl) ?_
      refine lv_iconst (v := 4) hx hb dL_law_2141 (by decide) ?_
      refine lv_iadd hx hb dL_law_2142 ?_
      refine va_sld hx hb hXs hbl hbA hS (inK t4 (by omega) (by omega)) dL_law_2143 ?_
      refine W.eq (g2 := F0 m 2144 ls [.int a4, .int 3, .int a2, .int 3, .ref h2]) (by rw [← ea4]) ?_
      refine lv_aload_n hx hb dL_law_2144 rfl (lv_at hl 3 rfl) ?_
      refine lv_iload_n hx hb dL_law_2145 rfl (lv_at hl 0 rfl) ?_
      refine lv_iconst (v := 5) hx hb dL_law_2146 (by decide) ?_
      refine lv_iadd hx hb dL_law_2147 ?_
      refine va_sld hx hb hXs hbl hbA hS (inK t5 (by omega) (by omega)) dL_law_2148 ?_
      refine W.eq (g2 := F0 m 2149 ls [.int a5, .int a4, .int 3, .int a2, .int 3, .ref h2]) (by rw [← ea5]) ?_
      refine behDi (wr := (XLW cs h1 Q F A (vA B 15 (vA (B 15) 0 y269)) D)) (runVD (As := [.int 3, .int a2, .int 3, .int a4, .int a5]) (rest := []) ⟨hx, hb, hml, hown, ht⟩ (sX11_paste l G cs h2 q2 MF MA MD MB hM.1 3 a2 3 a4 a5) okV_RL_279 ⟨(Nat.le_of_ble_eq_true rfl), (Nat.le_of_ble_eq_true rfl)⟩ hK hP hD [101, 102, 103, 104, 105, 106, 107, 108, 109, 110, 111, 112, 113, 114, 115, 116, 117, 118, 119, 120] rfl (by decide +kernel) rfl 101 rfl rfl hl.1 rfl (Nat.le_of_ble_eq_true rfl) dL_law_2149 ⟨(Nat.le_of_ble_eq_true rfl), (Nat.le_of_ble_eq_true rfl)⟩) hP hD hS (fun _ h => h) [101, 102, 103, 104, 105, 106, 107, 108, 109, 110, 111, 112, 113, 114, 115, 116, 117, 118, 119, 120] [0, 1, 2, 3, 4, 5, 6, 7, 8, 9, 10, 11, 12, 13, 14, 15, 16, 17, 18, 19, 20, 21, 22, 23, 24, 25, 26, 27, 28, 29, 30, 31, 32, 33, 34, 35, 36, 37, 38, 39, 40, 41, 42, 43, 44, 45, 46, 47, 48, 49, 50, 51, 52, 53, 54, 55, 56, 57, 58, 59, 60, 61, 62, 63, 64, 65, 66, 67, 68, 69, 70, 71, 72, 73, 74, 75, 76, 77, 78, 79, 80, 81, 82, 83, 84, 85, 86, 87, 88, 89, 90, 91, 92, 93, 94, 95, 96, 97, 98, 99, 100] rfl rfl (by decide +kernel) (by decide +kernel) (fun r9 u H locs hu hP hD hS => ?_)
      obtain ⟨y273, y274⟩ := u
      obtain ⟨r272, rfl⟩ : ∃ z, z = r9 := ⟨_, rfl⟩
      have hr272 := hu
      have kk275 : (3 : Int32).toInt = 3 := by decide
      have kk276 : (3 : Int32).toInt = 3 := by decide
      have hr272 : (r272.toInt = -2 ∧ ((3 : Int32).toInt < 0 ∨ 3 < (3 : Int32).toInt ∨ (3 : Int32).toInt < 0 ∨ 3 < (3 : Int32).toInt)) ∨ ((0 ≤ (3 : Int32).toInt ∧ (3 : Int32).toInt ≤ 3) ∧ (0 ≤ (3 : Int32).toInt ∧ (3 : Int32).toInt ≤ 3) ∧ (((MA 31) (3 : Int32).toNatClampNeg).toInt = -1 ∨ ((MA 31) (3 : Int32).toNatClampNeg).toInt = -1) ∧ r272.toInt = -6) ∨ ((0 ≤ (3 : Int32).toInt ∧ (3 : Int32).toInt ≤ 3) ∧ (0 ≤ (3 : Int32).toInt ∧ (3 : Int32).toInt ≤ 3) ∧ ¬ ((MA 31) (3 : Int32).toNatClampNeg).toInt = -1 ∧ ¬ ((MA 31) (3 : Int32).toNatClampNeg).toInt = -1 ∧ ¬ ((MA 32) (3 : Int32).toNatClampNeg).toInt = ((MA 32) (3 : Int32).toNatClampNeg).toInt ∧ r272.toInt = -8) ∨ ((0 ≤ (3 : Int32).toInt ∧ (3 : Int32).toInt ≤ 3) ∧ (0 ≤ (3 : Int32).toInt ∧ (3 : Int32).toInt ≤ 3) ∧ ¬ ((MA 31) (3 : Int32).toNatClampNeg).toInt = -1 ∧ ¬ ((MA 31) (3 : Int32).toNatClampNeg).toInt = -1 ∧ ((MA 32) (3 : Int32).toNatClampNeg).toInt = ((MA 32) (3 : Int32).toNatClampNeg).toInt ∧ (a2.toInt < 0 ∨ a4.toInt < 0 ∨ a5.toInt < 0 ∨ ((MA 31) (3 : Int32).toNatClampNeg).toInt < a2.toInt + a5.toInt ∨ ((MA 31) (3 : Int32).toNatClampNeg).toInt < a4.toInt + a5.toInt) ∧ r272.toInt = -7) ∨ ((0 ≤ (3 : Int32).toInt ∧ (3 : Int32).toInt ≤ 3) ∧ (0 ≤ (3 : Int32).toInt ∧ (3 : Int32).toInt ≤ 3) ∧ ¬ ((MA 31) (3 : Int32).toNatClampNeg).toInt = -1 ∧ ¬ ((MA 31) (3 : Int32).toNatClampNeg).toInt = -1 ∧ ((MA 32) (3 : Int32).toNatClampNeg).toInt = ((MA 32) (3 : Int32).toNatClampNeg).toInt ∧ ¬ (a2.toInt < 0 ∨ a4.toInt < 0 ∨ a5.toInt < 0 ∨ ((MA 31) (3 : Int32).toNatClampNeg).toInt < a2.toInt + a5.toInt ∨ ((MA 31) (3 : Int32).toNatClampNeg).toInt < a4.toInt + a5.toInt) ∧ r272.toInt = 0) := hr272
      have hP : va_P G vwCl (LW cs h1 Q h2 q2 F A (vA B 15 (vA (B 15) 0 y269)) D MF MA MD (vA (vA MB 33 y273) 34 y274)) H := hP
      have hD : va_D (fun q : Nat => s.heap.size ≤ q) (LW cs h1 Q h2 q2 F A (vA B 15 (vA (B 15) 0 y269)) D MF MA MD (vA (vA MB 33 y273) 34 y274)) := hD
      have n31_3 : (MA 31 (3 : Int32).toNatClampNeg).toInt = (MA 31 3).toInt := congrArg (fun z => (MA 31 z).toInt) (show (3 : Int32).toNatClampNeg = 3 by decide)
      have n32_3 : (MA 32 (3 : Int32).toNatClampNeg).toInt = (MA 32 3).toInt := congrArg (fun z => (MA 32 z).toInt) (show (3 : Int32).toNatClampNeg = 3 by decide)
      have nsr_3 : ((F 15 1).toInt = 0 ∧ (MA 31 3).toInt = -1) ∨ (¬ (F 15 1).toInt = 0 ∧ (MA 31 3).toInt = (F 15 3).toInt ∧ 0 ≤ (F 15 3).toInt ∧ (MA 32 3).toInt = (F 15 2).toInt) := hR.2.2.2.2.2.2
      refine lv_pop hx hb dL_law_2152 rfl ?_
      refine lv_goto (tgt := 2156) hx hb dL_law_2153 (by decide) ?_
      exact kk F A (vA B 15 (vA (B 15) 0 y269)) D MF MA MD (vA (vA MB 33 y273) 34 y274) H locs ls ⟨hX.1, hX.2.1, hX.2.2.1, hX.2.2.2.1, hX.2.2.2.2.1, hX.2.2.2.2.2.1, hX.2.2.2.2.2.2.1, hX.2.2.2.2.2.2.2.1, hX.2.2.2.2.2.2.2.2.1, hX.2.2.2.2.2.2.2.2.2.1, hX.2.2.2.2.2.2.2.2.2.2.1, hX.2.2.2.2.2.2.2.2.2.2.2.1, hX.2.2.2.2.2.2.2.2.2.2.2.2.1, hX.2.2.2.2.2.2.2.2.2.2.2.2.2.1, hX.2.2.2.2.2.2.2.2.2.2.2.2.2.2.1, hX.2.2.2.2.2.2.2.2.2.2.2.2.2.2.2.1, hX.2.2.2.2.2.2.2.2.2.2.2.2.2.2.2.2.1, hX.2.2.2.2.2.2.2.2.2.2.2.2.2.2.2.2.2.1, hX.2.2.2.2.2.2.2.2.2.2.2.2.2.2.2.2.2.2.1, hX.2.2.2.2.2.2.2.2.2.2.2.2.2.2.2.2.2.2.2.1, hX.2.2.2.2.2.2.2.2.2.2.2.2.2.2.2.2.2.2.2.2.1, hX.2.2.2.2.2.2.2.2.2.2.2.2.2.2.2.2.2.2.2.2.2.1, hX.2.2.2.2.2.2.2.2.2.2.2.2.2.2.2.2.2.2.2.2.2.2.1, hX.2.2.2.2.2.2.2.2.2.2.2.2.2.2.2.2.2.2.2.2.2.2.2.1, hX.2.2.2.2.2.2.2.2.2.2.2.2.2.2.2.2.2.2.2.2.2.2.2.2.1, hX.2.2.2.2.2.2.2.2.2.2.2.2.2.2.2.2.2.2.2.2.2.2.2.2.2.1, hX.2.2.2.2.2.2.2.2.2.2.2.2.2.2.2.2.2.2.2.2.2.2.2.2.2.2⟩ ⟨hM.1, hM.2.1, hM.2.2⟩ hR hP hD hS hl

