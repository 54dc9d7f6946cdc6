set_option maxRecDepth 100000 in
set_option maxHeartbeats 16000000 in
theorem law_56 {p : Program} {l : Launch} {e : Env} {s : State} {m : MethodId} {below : List Frame} {meth : Method} {c : Code} {b L : Nat} {xs : Nat → Int32} {G : va_G} {cs : Nat → ClassId} {h1 : Nat} {Q : Nat → Nat → Nat} {h2 : Nat} {q2 : Nat → Nat} {sd : Nat → Nat × Nat} {i : Int32} : LCase p l e s m below meth c b G cs h1 Q h2 q2 i L xs sd 56 := by
  intro C0 hL hK hQ hQM hi0 hi6 kk F A B D MF MA MD MB H locs ls hX hM hR hP hD hS hl
  obtain ⟨hx, hb, hr, hml, hown, hts, hXs, hbl, hlocks, hgv⟩ := id C0
  have hown : s.vm.findClass RL = some m.cls := hown
  have ht : ∀ w ∈ tb, w.before #[Value.ref b] s = true := fun w h => hts w (List.mem_filter.mp h).1
  have hbA : ¬ (fun q : Nat => s.heap.size ≤ q) b := Nat.not_le.mpr hbl
  have t1 : (i + 1).toInt = i.toInt + 1 := addT rfl (by decide) (by omega)
  obtain ⟨a1, ea1⟩ : ∃ z : Int32, z = xs (i + 1).toNatClampNeg := ⟨_, rfl⟩
  have t2 : (i + 2).toInt = i.toInt + 2 := addT rfl (by decide) (by omega)
  obtain ⟨a2, ea2⟩ : ∃ z : Int32, z = xs (i + 2).toNatClampNeg := ⟨_, rfl⟩
  have t3 : (i + 3).toInt = i.toInt + 3 := addT rfl (by decide) (by omega)
  obtain ⟨a3, ea3⟩ : ∃ z : Int32, z = xs (i + 3).toNatClampNeg := ⟨_, rfl⟩
  refine lv_tableIn (off := 1789) (tgt := 1822) hx hb dL_law_33 (by decide) (by decide) (by decide) (by decide) ?_
  refine lv_aload_n hx hb dL_law_1822 rfl (lv_at hl 2 rfl) ?_
  refine lv_aload_n hx hb dL_law_1823 rfl (lv_at hl 3 rfl) ?_
  refine lv_iload_n hx hb dL_law_1824 rfl (lv_at hl 0 rfl) ?_
  refine lv_iconst (v := 1) hx hb dL_law_1825 (by decide) ?_
  refine lv_iadd hx hb dL_law_1826 ?_
  refine va_sld hx hb hXs hbl hbA hS (inK t1 (by omega) (by omega)) dL_law_1827 ?_
  refine W.eq (g2 := F0 m 1828 ls [.int a1, .ref h1]) (by rw [← ea1]) ?_
  refine lv_aload_n hx hb dL_law_1828 rfl (lv_at hl 3 rfl) ?_
  refine lv_iload_n hx hb dL_law_1829 rfl (lv_at hl 0 rfl) ?_
  refine lv_iconst (v := 2) hx hb dL_law_1830 (by decide) ?_
  refine lv_iadd hx hb dL_law_1831 ?_
  refine va_sld hx hb hXs hbl hbA hS (inK t2 (by omega) (by omega)) dL_law_1832 ?_
  refine W.eq (g2 := F0 m 1833 ls [.int a2, .int a1, .ref h1]) (by rw [← ea2]) ?_
  refine lv_aload_n hx hb dL_law_1833 rfl (lv_at hl 3 rfl) ?_
  refine lv_iload_n hx hb dL_law_1834 rfl (lv_at hl 0 rfl) ?_
  refine lv_iconst (v := 3) hx hb dL_law_1835 (by decide) ?_
  refine lv_iadd hx hb dL_law_1836 ?_
  refine va_sld hx hb hXs hbl hbA hS (inK t3 (by omega) (by omega)) dL_law_1837 ?_
  refine W.eq (g2 := F0 m 1838 ls [.int a3, .int a2, .int a1, .ref h1]) (by rw [← ea3]) ?_
  rcases csN3 a2 with hN | hN | rfl | rfl | rfl
  · have bb1 := i32b a2
    refine behR (runVP (As := [.int a1, .int a2, .int a3]) (rest := []) ⟨hx, hb, hml, hown, ht⟩ (sX10_tell_lo l G cs h1 (Q 0) (F 0) (A 0) (B 0) (D 0) hX.1 (Q 4) (F 4) (A 4) (B 4) (D 4) hX.2.2.2.2.1 (Q 5) (F 5) (A 5) (B 5) (D 5) hX.2.2.2.2.2.1 (Q 6) (F 6) (A 6) (B 6) (D 6) hX.2.2.2.2.2.2.1 a1 a2 a3 (by omega)) okV_RL_245 ⟨(Nat.le_of_ble_eq_true rfl), (Nat.le_of_ble_eq_true rfl)⟩ hK hP [0, 1, 2, 14, 15, 16, 17, 18, 19, 20, 21, 22, 23, 24, 25, 26] rfl 0 rfl rfl hl.1 rfl (Nat.le_of_ble_eq_true rfl) dL_law_1838 ⟨(Nat.le_of_ble_eq_true rfl), (Nat.le_of_ble_eq_true rfl)⟩) hP hS (fun _ h => h) (fun r2 H locs hr2 hP hS => ?_)
    refine lv_pop hx hb dL_law_1841 rfl ?_
    refine lv_aload_n hx hb dL_law_1842 rfl (lv_at hl 1 rfl) ?_
    refine lv_aload_n hx hb dL_law_1843 rfl (lv_at hl 3 rfl) ?_
    refine lv_iload_n hx hb dL_law_1844 rfl (lv_at hl 0 rfl) ?_
    refine lv_iconst (v := 1) hx hb dL_law_1845 (by decide) ?_
    refine lv_iadd hx hb dL_law_1846 ?_
    refine va_sld hx hb hXs hbl hbA hS (inK t1 (by omega) (by omega)) dL_law_1847 ?_
    refine W.eq (g2 := F0 m 1848 ls [.int a1, .ref h2]) (by rw [← ea1]) ?_
    refine lv_aload_n hx hb dL_law_1848 rfl (lv_at hl 3 rfl) ?_
    refine lv_iload_n hx hb dL_law_1849 rfl (lv_at hl 0 rfl) ?_
    refine lv_iconst (v := 2) hx hb dL_law_1850 (by decide) ?_
    refine lv_iadd hx hb dL_law_1851 ?_
    refine va_sld hx hb hXs hbl hbA hS (inK t2 (by omega) (by omega)) dL_law_1852 ?_
    refine W.eq (g2 := F0 m 1853 ls [.int a2, .int a1, .ref h2]) (by rw [← ea2]) ?_
    refine lv_aload_n hx hb dL_law_1853 rfl (lv_at hl 3 rfl) ?_
    refine lv_iload_n hx hb dL_law_1854 rfl (lv_at hl 0 rfl) ?_
    refine lv_iconst (v := 3) hx hb dL_law_1855 (by decide) ?_
    refine lv_iadd hx hb dL_law_1856 ?_
    refine va_sld hx hb hXs hbl hbA hS (inK t3 (by omega) (by omega)) dL_law_1857 ?_
    refine W.eq (g2 := F0 m 1858 ls [.int a3, .int a2, .int a1, .ref h2]) (by rw [← ea3]) ?_
    refine behDi (wr := (XLW cs h1 Q F A B D)) (runVD (As := [.int a1, .int a2, .int a3]) (rest := []) ⟨hx, hb, hml, hown, ht⟩ (sX11_tell l G cs h2 q2 MF MA MD MB hM.1 a1 a2 a3 hM.2.1) okV_RL_248 ⟨(Nat.le_of_ble_eq_true rfl), (Nat.le_of_ble_eq_true rfl)⟩ hK hP hD [101, 102, 103, 104, 105, 106, 107, 108, 109, 110, 111, 112, 113, 114, 115, 116, 117, 118, 119, 120] rfl (by decide +kernel) rfl 101 rfl rfl hl.1 rfl (Nat.le_of_ble_eq_true rfl) dL_law_1858 ⟨(Nat.le_of_ble_eq_true rfl), (Nat.le_of_ble_eq_true rfl)⟩) hP hD hS (fun _ h => h) [101, 102, 103, 104, 105, 106, 107, 108, 109, 110, 111, 112, 113, 114, 115, 116, 117, 118, 119, 120] [0, 1, 2, 3, 4, 5, 6, 7, 8, 9, 10, 11, 12, 13, 14, 15, 16, 17, 18, 19, 20, 21, 22, 23, 24, 25, 26, 27, 28, 29, 30, 31, 32, 33, 34, 35, 36, 37, 38, 39, 40, 41, 42, 43, 44, 45, 46, 47, 48, 49, 50, 51, 52, 53, 54, 55, 56, 57, 58, 59, 60, 61, 62, 63, 64, 65, 66, 67, 68, 69, 70, 71, 72, 73, 74, 75, 76, 77, 78, 79, 80, 81, 82, 83, 84, 85, 86, 87, 88, 89, 90, 91, 92, 93, 94, 95, 96, 97, 98, 99, 100] rfl rfl (by decide +kernel) (by decide +kernel) (fun r9 u H locs hu hP hD hS => ?_)
    obtain ⟨g4, rfl⟩ : ∃ z, z = u := ⟨_, rfl⟩
    obtain ⟨r3, rfl⟩ : ∃ z, z = r9 := ⟨_, rfl⟩
    obtain ⟨hg4, hr3⟩ := hu
    have hg4 : AI 1 g4 := hg4
    have hr3 : WG g4 := hr3
    have hP : va_P G vwCl (LW cs h1 Q h2 q2 F A B D MF (vA MA 1 g4) MD MB) H := hP
    have hD : va_D (fun q : Nat => s.heap.size ≤ q) (LW cs h1 Q h2 q2 F A B D MF (vA MA 1 g4) MD MB) := hD
    refine lv_pop hx hb dL_law_1861 rfl ?_
    refine lv_goto (tgt := 2156) hx hb dL_law_1862 (by decide) ?_
    exact kk F A B D MF (vA MA 1 g4) MD MB H locs ls ⟨hX.1, hX.2.1, hX.2.2.1, hX.2.2.2.1, hX.2.2.2.2.1, hX.2.2.2.2.2.1, hX.2.2.2.2.2.2.1, hX.2.2.2.2.2.2.2.1, hX.2.2.2.2.2.2.2.2.1, hX.2.2.2.2.2.2.2.2.2.1, hX.2.2.2.2.2.2.2.2.2.2.1, hX.2.2.2.2.2.2.2.2.2.2.2.1, hX.2.2.2.2.2.2.2.2.2.2.2.2.1, hX.2.2.2.2.2.2.2.2.2.2.2.2.2.1, hX.2.2.2.2.2.2.2.2.2.2.2.2.2.2.1, hX.2.2.2.2.2.2.2.2.2.2.2.2.2.2.2.1, hX.2.2.2.2.2.2.2.2.2.2.2.2.2.2.2.2.1, hX.2.2.2.2.2.2.2.2.2.2.2.2.2.2.2.2.2.1, hX.2.2.2.2.2.2.2.2.2.2.2.2.2.2.2.2.2.2.1, hX.2.2.2.2.2.2.2.2.2.2.2.2.2.2.2.2.2.2.2.1, hX.2.2.2.2.2.2.2.2.2.2.2.2.2.2.2.2.2.2.2.2.1, hX.2.2.2.2.2.2.2.2.2.2.2.2.2.2.2.2.2.2.2.2.2.1, hX.2.2.2.2.2.2.2.2.2.2.2.2.2.2.2.2.2.2.2.2.2.2.1, hX.2.2.2.2.2.2.2.2.2.2.2.2.2.2.2.2.2.2.2.2.2.2.2.1, hX.2.2.2.2.2.2.2.2.2.2.2.2.2.2.2.2.2.2.2.2.2.2.2.2.1, hX.2.2.2.2.2.2.2.2.2.2.2.2.2.2.2.2.2.2.2.2.2.2.2.2.2.1, hX.2.2.2.2.2.2.2.2.2.2.2.2.2.2.2.2.2.2.2.2.2.2.2.2.2.2⟩ ⟨(IM_arr (k := 1) hM.1 hg4), hr3, hM.2.2⟩ hR hP hD hS hl
  · have bb5 := i32b a2
    refine behR (runVP (As := [.int a1, .int a2, .int a3]) (rest := []) ⟨hx, hb, hml, hown, ht⟩ (sX10_tell_hi l G cs h1 (Q 0) (F 0) (A 0) (B 0) (D 0) hX.1 (Q 4) (F 4) (A 4) (B 4) (D 4) hX.2.2.2.2.1 (Q 5) (F 5) (A 5) (B 5) (D 5) hX.2.2.2.2.2.1 (Q 6) (F 6) (A 6) (B 6) (D 6) hX.2.2.2.2.2.2.1 a1 a2 a3 (by omega)) okV_RL_245 ⟨(Nat.le_of_ble_eq_true rfl), (Nat.le_of_ble_eq_true rfl)⟩ hK hP [0, 1, 2, 14, 15, 16, 17, 18, 19, 20, 21, 22, 23, 24, 25, 26] rfl 0 rfl rfl hl.1 rfl (Nat.le_of_ble_eq_true rfl) dL_law_1838 ⟨(Nat.le_of_ble_eq_true rfl), (Nat.le_of_ble_eq_true rfl)⟩) hP hS (fun _ h => h) (fun r6 H locs hr6 hP hS => ?_)
    refine lv_pop hx hb dL_law_1841 rfl ?_
    refine lv_aload_n hx hb dL_law_1842 rfl (lv_at hl 1 rfl) ?_
    refine lv_aload_n hx hb dL_law_1843 rfl (lv_at hl 3 rfl) ?_
    refine lv_iload_n hx hb dL_law_1844 rfl (lv_at hl 0 rfl) ?_
    refine lv_iconst (v := 1) hx hb dL_law_1845 (by decide) ?_
    refine lv_iadd hx hb dL_law_1846 ?_
    refine va_sld hx hb hXs hbl hbA hS (inK t1 (by omega) (by omega)) dL_law_1847 ?_
    refine W.eq (g2 := F0 m 1848 ls [.int a1, .ref h2]) (by rw [← ea1]) ?_
    refine lv_aload_n hx hb dL_law_1848 rfl (lv_at hl 3 rfl) ?_
    refine lv_iload_n hx hb dL_law_1849 rfl (lv_at hl 0 rfl) ?_
    refine lv_iconst (v := 2) hx hb dL_law_1850 (by decide) ?_
    refine lv_iadd hx hb dL_law_1851 ?_
    refine va_sld hx hb hXs hbl hbA hS (inK t2 (by omega) (by omega)) dL_law_1852 ?_
    refine W.eq (g2 := F0 m 1853 ls [.int a2, .int a1, .ref h2]) (by rw [← ea2]) ?_
    refine lv_aload_n hx hb dL_law_1853 rfl (lv_at hl 3 rfl) ?_
    refine lv_iload_n hx hb dL_law_1854 rfl (lv_at hl 0 rfl) ?_
    refine lv_iconst (v := 3) hx hb dL_law_1855 (by decide) ?_
    refine lv_iadd hx hb dL_law_1856 ?_
    refine va_sld hx hb hXs hbl hbA hS (inK t3 (by omega) (by omega)) dL_law_1857 ?_
    refine W.eq (g2 := F0 m 1858 ls [.int a3, .int a2, .int a1, .ref h2]) (by rw [← ea3]) ?_
    refine behDi (wr := (XLW cs h1 Q F A B D)) (runVD (As := [.int a1, .int a2, .int a3]) (rest := []) ⟨hx, hb, hml, hown, ht⟩ (sX11_tell l G cs h2 q2 MF MA MD MB hM.1 a1 a2 a3 hM.2.1) okV_RL_248 ⟨(Nat.le_of_ble_eq_true rfl), (Nat.le_of_ble_eq_true rfl)⟩ hK hP hD [101, 102, 103, 104, 105, 106, 107, 108, 109, 110, 111, 112, 113, 114, 115, 116, 117, 118, 119, 120] rfl (by decide +kernel) rfl 101 rfl rfl hl.1 rfl (Nat.le_of_ble_eq_true rfl) dL_law_1858 ⟨(Nat.le_of_ble_eq_true rfl), (Nat.le_of_ble_eq_true rfl)⟩) hP hD hS (fun _ h => h) [101, 102, 103, 104, 105, 106, 107, 108, 109, 110, 111, 112, 113, 114, 115, 116, 117, 118, 119, 120] [0, 1, 2, 3, 4, 5, 6, 7, 8, 9, 10, 11, 12, 13, 14, 15, 16, 17, 18, 19, 20, 21, 22, 23, 24, 25, 26, 27, 28, 29, 30, 31, 32, 33, 34, 35, 36, 37, 38, 39, 40, 41, 42, 43, 44, 45, 46, 47, 48, 49, 50, 51, 52, 53, 54, 55, 56, 57, 58, 59, 60, 61, 62, 63, 64, 65, 66, 67, 68, 69, 70, 71, 72, 73, 74, 75, 76, 77, 78, 79, 80, 81, 82, 83, 84, 85, 86, 87, 88, 89, 90, 91, 92, 93, 94, 95, 96, 97, 98, 99, 100] rfl rfl (by decide +kernel) (by decide +kernel) (fun r9 u H locs hu hP hD hS => ?_)
    obtain ⟨g8, rfl⟩ : ∃ z, z = u := ⟨_, rfl⟩
    obtain ⟨r7, rfl⟩ : ∃ z, z = r9 := ⟨_, rfl⟩
    obtain ⟨hg8, hr7⟩ := hu
    have hg8 : AI 1 g8 := hg8
    have hr7 : WG g8 := hr7
    have hP : va_P G vwCl (LW cs h1 Q h2 q2 F A B D MF (vA MA 1 g8) MD MB) H := hP
    have hD : va_D (fun q : Nat => s.heap.size ≤ q) (LW cs h1 Q h2 q2 F A B D MF (vA MA 1 g8) MD MB) := hD
    refine lv_pop hx hb dL_law_1861 rfl ?_
    refine lv_goto (tgt := 2156) hx hb dL_law_1862 (by decide) ?_
    exact kk F A B D MF (vA MA 1 g8) MD MB H locs ls ⟨hX.1, hX.2.1, hX.2.2.1, hX.2.2.2.1, hX.2.2.2.2.1, hX.2.2.2.2.2.1, hX.2.2.2.2.2.2.1, hX.2.2.2.2.2.2.2.1, hX.2.2.2.2.2.2.2.2.1, hX.2.2.2.2.2.2.2.2.2.1, hX.2.2.2.2.2.2.2.2.2.2.1, hX.2.2.2.2.2.2.2.2.2.2.2.1, hX.2.2.2.2.2.2.2.2.2.2.2.2.1, hX.2.2.2.2.2.2.2.2.2.2.2.2.2.1, hX.2.2.2.2.2.2.2.2.2.2.2.2.2.2.1, hX.2.2.2.2.2.2.2.2.2.2.2.2.2.2.2.1, hX.2.2.2.2.2.2.2.2.2.2.2.2.2.2.2.2.1, hX.2.2.2.2.2.2.2.2.2.2.2.2.2.2.2.2.2.1, hX.2.2.2.2.2.2.2.2.2.2.2.2.2.2.2.2.2.2.1, hX.2.2.2.2.2.2.2.2.2.2.2.2.2.2.2.2.2.2.2.1, hX.2.2.2.2.2.2.2.2.2.2.2.2.2.2.2.2.2.2.2.2.1, hX.2.2.2.2.2.2.2.2.2.2.2.2.2.2.2.2.2.2.2.2.2.1, hX.2.2.2.2.2.2.2.2.2.2.2.2.2.2.2.2.2.2.2.2.2.2.1, hX.2.2.2.2.2.2.2.2.2.2.2.2.2.2.2.2.2.2.2.2.2.2.2.1, hX.2.2.2.2.2.2.2.2.2.2.2.2.2.2.2.2.2.2.2.2.2.2.2.2.1, hX.2.2.2.2.2.2.2.2.2.2.2.2.2.2.2.2.2.2.2.2.2.2.2.2.2.1, hX.2.2.2.2.2.2.2.2.2.2.2.2.2.2.2.2.2.2.2.2.2.2.2.2.2.2⟩ ⟨(IM_arr (k := 1) hM.1 hg8), hr7, hM.2.2⟩ hR hP hD hS hl
  · refine behDi (wr := ((uX6 cs (Q 0 0) (fun _ => Q 0 1) (F 1) (A 1) (B 1) (D 1)) ++ ((uX9 cs (Q 0 1) (Q 2) (F 2) (A 2) (B 2) (D 2)) ++ ((uX3 cs (Q 0 2) (Q 3) (F 3) (A 3) (B 3) (D 3)) ++ ((uX5 cs (Q 0 7) (Q 7) (F 7) (A 7) (B 7) (D 7)) ++ ((uX0 cs (Q 0 8) (Q 8) (F 8) (A 8) (B 8) (D 8)) ++ ((uX1 cs (Q 0 9) (Q 9) (F 9) (A 9) (B 9) (D 9)) ++ ((uX4 cs (Q 0 10) (Q 10) (F 10) (A 10) (B 10) (D 10)) ++ ((uX2 cs (Q 0 11) (Q 11) (F 11) (A 11) (B 11) (D 11)) ++ ((uX7 cs (Q 0 20) (Q 12) (F 12) (A 12) (B 12) (D 12)) ++ ((uX7 cs (Q 0 21) (Q 13) (F 13) (A 13) (B 13) (D 13)) ++ ((uX7 cs (Q 0 22) (Q 14) (F 14) (A 14) (B 14) (D 14)) ++ ((uX7 cs (Q 0 23) (Q 15) (F 15) (A 15) (B 15) (D 15)) ++ ((uX8 cs (Q 0 30) (Q 16) (F 16) (A 16) (B 16) (D 16)) ++ ((uX3 cs (Q 16 0) (Q 17) (F 17) (A 17) (B 17) (D 17)) ++ ((uX8 cs (Q 0 31) (Q 18) (F 18) (A 18) (B 18) (D 18)) ++ ((uX3 cs (Q 18 0) (Q 19) (F 19) (A 19) (B 19) (D 19)) ++ ((uX8 cs (Q 0 32) (Q 20) (F 20) (A 20) (B 20) (D 20)) ++ ((uX3 cs (Q 20 0) (Q 21) (F 21) (A 21) (B 21) (D 21)) ++ ((uX5 cs (Q 8 10) (Q 22) (F 22) (A 22) (B 22) (D 22)) ++ ((uX5 cs (Q 8 11) (Q 23) (F 23) (A 23) (B 23) (D 23)) ++ ((uX5 cs (Q 8 12) (Q 24) (F 24) (A 24) (B 24) (D 24)) ++ ((uX5 cs (Q 8 13) (Q 25) (F 25) (A 25) (B 25) (D 25)) ++ ((uX5 cs (Q 8 14) (Q 26) (F 26) (A 26) (B 26) (D 26)) ++ (mS cs h2 q2 MF MA MD MB))))))))))))))))))))))))) (runVD (As := [.int a1, .int 0, .int a3]) (rest := []) ⟨hx, hb, hml, hown, ht⟩ (sX10_tell_0 l G cs h1 (Q 0) (F 0) (A 0) (B 0) (D 0) hX.1 (Q 4) (F 4) (A 4) (B 4) (D 4) hX.2.2.2.2.1 (Q 5) (F 5) (A 5) (B 5) (D 5) hX.2.2.2.2.2.1 (Q 6) (F 6) (A 6) (B 6) (D 6) hX.2.2.2.2.2.2.1 a1 a3) okV_RL_245 ⟨(Nat.le_of_ble_eq_true rfl), (Nat.le_of_ble_eq_true rfl)⟩ hK hP hD [0, 1, 2, 14, 15, 16, 17, 18, 19, 20, 21, 22, 23, 24, 25, 26] rfl (by decide +kernel) rfl 0 rfl rfl hl.1 rfl (Nat.le_of_ble_eq_true rfl) dL_law_1838 ⟨(Nat.le_of_ble_eq_true rfl), (Nat.le_of_ble_eq_true rfl)⟩) hP hD hS (fun _ h => h) [0, 1, 2, 14, 15, 16, 17, 18, 19, 20, 21, 22, 23, 24, 25, 26] [3, 4, 5, 6, 7, 8, 9, 10, 11, 12, 13, 27, 28, 29, 30, 31, 32, 33, 34, 35, 36, 37, 38, 39, 40, 41, 42, 43, 44, 45, 46, 47, 48, 49, 50, 51, 52, 53, 54, 55, 56, 57, 58, 59, 60, 61, 62, 63, 64, 65, 66, 67, 68, 69, 70, 71, 72, 73, 74, 75, 76, 77, 78, 79, 80, 81, 82, 83, 84, 85, 86, 87, 88, 89, 90, 91, 92, 93, 94, 95, 96, 97, 98, 99, 100, 101, 102, 103, 104, 105, 106, 107, 108, 109, 110, 111, 112, 113, 114, 115, 116, 117, 118, 119, 120] rfl rfl (by decide +kernel) (by decide +kernel) (fun r9 u H locs hu hP hD hS => ?_)
    obtain ⟨x10, x11, g12, g13, g14⟩ := u
    obtain ⟨r9, rfl⟩ : ∃ z, z = r9 := ⟨_, rfl⟩
    have hr9 := hu
    have hP : va_P G vwCl (LW cs h1 Q h2 q2 (vA F 6 (upd (upd (F 6) 2 x10) 3 x11)) (vA (vA A 5 (vA (A 5) 7 g12)) 6 (vA (vA (A 6) 0 g13) 1 g14)) B D MF MA MD MB) H := hP.sub [105, 106, 107, 0, 1, 2, 3, 4, 5, 6, 7, 8, 9, 10, 108, 109, 110, 111, 112, 113, 114, 115, 116, 117, 118, 119, 120, 11, 12, 13, 14, 15, 16, 17, 18, 19, 20, 21, 22, 23, 24, 25, 26, 27, 28, 29, 30, 31, 32, 33, 34, 35, 36, 37, 38, 39, 40, 41, 42, 43, 44, 45, 46, 47, 48, 49, 50, 51, 52, 53, 54, 55, 56, 57, 58, 59, 60, 61, 62, 63, 64, 65, 66, 67, 68, 69, 70, 71, 72, 73, 74, 75, 76, 77, 78, 79, 80, 81, 82, 83, 84, 85, 86, 87, 88, 89, 90, 91, 92, 93, 94, 95, 96, 97, 98, 99, 100, 101, 102, 103, 104] rfl
    have hD : va_D (fun q : Nat => s.heap.size ≤ q) (LW cs h1 Q h2 q2 (vA F 6 (upd (upd (F 6) 2 x10) 3 x11)) (vA (vA A 5 (vA (A 5) 7 g12)) 6 (vA (vA (A 6) 0 g13) 1 g14)) B D MF MA MD MB) := hD.sub [105, 106, 107, 0, 1, 2, 3, 4, 5, 6, 7, 8, 9, 10, 108, 109, 110, 111, 112, 113, 114, 115, 116, 117, 118, 119, 120, 11, 12, 13, 14, 15, 16, 17, 18, 19, 20, 21, 22, 23, 24, 25, 26, 27, 28, 29, 30, 31, 32, 33, 34, 35, 36, 37, 38, 39, 40, 41, 42, 43, 44, 45, 46, 47, 48, 49, 50, 51, 52, 53, 54, 55, 56, 57, 58, 59, 60, 61, 62, 63, 64, 65, 66, 67, 68, 69, 70, 71, 72, 73, 74, 75, 76, 77, 78, 79, 80, 81, 82, 83, 84, 85, 86, 87, 88, 89, 90, 91, 92, 93, 94, 95, 96, 97, 98, 99, 100, 101, 102, 103, 104] (by decide +kernel) rfl
    refine lv_pop hx hb dL_law_1841 rfl ?_
    refine lv_aload_n hx hb dL_law_1842 rfl (lv_at hl 1 rfl) ?_
    refine lv_aload_n hx hb dL_law_1843 rfl (lv_at hl 3 rfl) ?_
    refine lv_iload_n hx hb dL_law_1844 rfl (lv_at hl 0 rfl) ?_
    refine lv_iconst (v := 1) hx hb dL_law_1845 (by decide) ?_
    refine lv_iadd hx hb dL_law_1846 ?_
    refine va_sld hx hb hXs hbl hbA hS (inK t1 (by omega) (by omega)) dL_law_1847 ?_
    refine W.eq (g2 := F0 m 1848 ls [.int a1, .ref h2]) (by rw [← ea1]) ?_
    refine lv_aload_n hx hb dL_law_1848 rfl (lv_at hl 3 rfl) ?_
    refine lv_iload_n hx hb dL_law_1849 rfl (lv_at hl 0 rfl) ?_
    refine lv_iconst (v := 2) hx hb dL_law_1850 (by decide) ?_
    refine lv_iadd hx hb dL_law_1851 ?_
    refine va_sld hx hb hXs hbl hbA hS (inK t2 (by omega) (by omega)) dL_law_1852 ?_
    refine W.eq (g2 := F0 m 1853 ls [.int 0, .int a1, .ref h2]) (by rw [← ea2]) ?_
    refine lv_aload_n hx hb dL_law_1853 rfl (lv_at hl 3 rfl) ?_
    refine lv_iload_n hx hb dL_law_1854 rfl (lv_at hl 0 rfl) ?_
    refine lv_iconst (v := 3) hx hb dL_law_1855 (by decide) ?_
    refine lv_iadd hx hb dL_law_1856 ?_
    refine va_sld hx hb hXs hbl hbA hS (inK t3 (by omega) (by omega)) dL_law_1857 ?_
    refine W.eq (g2 := F0 m 1858 ls [.int a3, .int 0, .int a1, .ref h2]) (by rw [← ea3]) ?_
    refine behDi (wr := (XLW cs h1 Q (vA F 6 (upd (upd (F 6) 2 x10) 3 x11)) (vA (vA A 5 (vA (A 5) 7 g12)) 6 (vA (vA (A 6) 0 g13) 1 g14)) B D)) (runVD (As := [.int a1, .int 0, .int a3]) (rest := []) ⟨hx, hb, hml, hown, ht⟩ (sX11_tell l G cs h2 q2 MF MA MD MB hM.1 a1 0 a3 hM.2.1) okV_RL_248 ⟨(Nat.le_of_ble_eq_true rfl), (Nat.le_of_ble_eq_true rfl)⟩ hK hP hD [101, 102, 103, 104, 105, 106, 107, 108, 109, 110, 111, 112, 113, 114, 115, 116, 117, 118, 119, 120] rfl (by decide +kernel) rfl 101 rfl rfl hl.1 rfl (Nat.le_of_ble_eq_true rfl) dL_law_1858 ⟨(Nat.le_of_ble_eq_true rfl), (Nat.le_of_ble_eq_true rfl)⟩) hP hD hS (fun _ h => h) [101, 102, 103, 104, 105, 106, 107, 108, 109, 110, 111, 112, 113, 114, 115, 116, 117, 118, 119, 120] [0, 1, 2, 3, 4, 5, 6, 7, 8, 9, 10, 11, 12, 13, 14, 15, 16, 17, 18, 19, 20, 21, 22, 23, 24, 25, 26, 27, 28, 29, 30, 31, 32, 33, 34, 35, 36, 37, 38, 39, 40, 41, 42, 43, 44, 45, 46, 47, 48, 49, 50, 51, 52, 53, 54, 55, 56, 57, 58, 59, 60, 61, 62, 63, 64, 65, 66, 67, 68, 69, 70, 71, 72, 73, 74, 75, 76, 77, 78, 79, 80, 81, 82, 83, 84, 85, 86, 87, 88, 89, 90, 91, 92, 93, 94, 95, 96, 97, 98, 99, 100] rfl rfl (by decide +kernel) (by decide +kernel) (fun r9 u H locs hu hP hD hS => ?_)
    obtain ⟨g16, rfl⟩ : ∃ z, z = u := ⟨_, rfl⟩
    obtain ⟨r15, rfl⟩ : ∃ z, z = r9 := ⟨_, rfl⟩
    obtain ⟨hg16, hr15⟩ := hu
    have hg16 : AI 1 g16 := hg16
    have kk17 : (0 : Int32).toInt = 0 := by decide
    have hr15 : WG g16 := hr15
    have hP : va_P G vwCl (LW cs h1 Q h2 q2 (vA F 6 (upd (upd (F 6) 2 x10) 3 x11)) (vA (vA A 5 (vA (A 5) 7 g12)) 6 (vA (vA (A 6) 0 g13) 1 g14)) B D MF (vA MA 1 g16) MD MB) H := hP
    have hD : va_D (fun q : Nat => s.heap.size ≤ q) (LW cs h1 Q h2 q2 (vA F 6 (upd (upd (F 6) 2 x10) 3 x11)) (vA (vA A 5 (vA (A 5) 7 g12)) 6 (vA (vA (A 6) 0 g13) 1 g14)) B D MF (vA MA 1 g16) MD MB) := hD
    refine lv_pop hx hb dL_law_1861 rfl ?_
    refine lv_goto (tgt := 2156) hx hb dL_law_1862 (by decide) ?_
    exact kk (vA F 6 (upd (upd (F 6) 2 x10) 3 x11)) (vA (vA A 5 (vA (A 5) 7 g12)) 6 (vA (vA (A 6) 0 g13) 1 g14)) B D MF (vA MA 1 g16) MD MB H locs ls ⟨hX.1, hX.2.1, hX.2.2.1, hX.2.2.2.1, hX.2.2.2.2.1, (IB_arr (k := 7) hX.2.2.2.2.2.1 (AJ_full _)), (IB_arr (k := 1) (IB_arr (k := 0) (IB_put (k := 3) (IB_put (k := 2) hX.2.2.2.2.2.2.1 (i32b _)) (i32b _)) (AJ_full _)) (AJ_full _)), hX.2.2.2.2.2.2.2.1, hX.2.2.2.2.2.2.2.2.1, hX.2.2.2.2.2.2.2.2.2.1, hX.2.2.2.2.2.2.2.2.2.2.1, hX.2.2.2.2.2.2.2.2.2.2.2.1, hX.2.2.2.2.2.2.2.2.2.2.2.2.1, hX.2.2.2.2.2.2.2.2.2.2.2.2.2.1, hX.2.2.2.2.2.2.2.2.2.2.2.2.2.2.1, hX.2.2.2.2.2.2.2.2.2.2.2.2.2.2.2.1, hX.2.2.2.2.2.2.2.2.2.2.2.2.2.2.2.2.1, hX.2.2.2.2.2.2.2.2.2.2.2.2.2.2.2.2.2.1, hX.2.2.2.2.2.2.2.2.2.2.2.2.2.2.2.2.2.2.1, hX.2.2.2.2.2.2.2.2.2.2.2.2.2.2.2.2.2.2.2.1, hX.2.2.2.2.2.2.2.2.2.2.2.2.2.2.2.2.2.2.2.2.1, hX.2.2.2.2.2.2.2.2.2.2.2.2.2.2.2.2.2.2.2.2.2.1, hX.2.2.2.2.2.2.2.2.2.2.2.2.2.2.2.2.2.2.2.2.2.2.1, hX.2.2.2.2.2.2.2.2.2.2.2.2.2.2.2.2.2.2.2.2.2.2.2.1, hX.2.2.2.2.2.2.2.2.2.2.2.2.2.2.2.2.2.2.2.2.2.2.2.2.1, hX.2.2.2.2.2.2.2.2.2.2.2.2.2.2.2.2.2.2.2.2.2.2.2.2.2.1, hX.2.2.2.2.2.2.2.2.2.2.2.2.2.2.2.2.2.2.2.2.2.2.2.2.2.2⟩ ⟨(IM_arr (k := 1) hM.1 hg16), hr15, hM.2.2⟩ hR hP hD hS hl
  · refine behDi (wr := ((uX6 cs (Q 0 0) (fun _ => Q 0 1) (F 1) (A 1) (B 1) (D 1)) ++ ((uX9 cs (Q 0 1) (Q 2) (F 2) (A 2) (B 2) (D 2)) ++ ((uX3 cs (Q 0 2) (Q 3) (F 3) (A 3) (B 3) (D 3)) ++ ((uX5 cs (Q 0 7) (Q 7) (F 7) (A 7) (B 7) (D 7)) ++ ((uX0 cs (Q 0 8) (Q 8) (F 8) (A 8) (B 8) (D 8)) ++ ((uX1 cs (Q 0 9) (Q 9) (F 9) (A 9) (B 9) (D 9)) ++ ((uX4 cs (Q 0 10) (Q 10) (F 10) (A 10) (B 10) (D 10)) ++ ((uX2 cs (Q 0 11) (Q 11) (F 11) (A 11) (B 11) (D 11)) ++ ((uX7 cs (Q 0 20) (Q 12) (F 12) (A 12) (B 12) (D 12)) ++ ((uX7 cs (Q 0 21) (Q 13) (F 13) (A 13) (B 13) (D 13)) ++ ((uX7 cs (Q 0 22) (Q 14) (F 14) (A 14) (B 14) (D 14)) ++ ((uX7 cs (Q 0 23) (Q 15) (F 15) (A 15) (B 15) (D 15)) ++ ((uX8 cs (Q 0 30) (Q 16) (F 16) (A 16) (B 16) (D 16)) ++ ((uX3 cs (Q 16 0) (Q 17) (F 17) (A 17) (B 17) (D 17)) ++ ((uX8 cs (Q 0 31) (Q 18) (F 18) (A 18) (B 18) (D 18)) ++ ((uX3 cs (Q 18 0) (Q 19) (F 19) (A 19) (B 19) (D 19)) ++ ((uX8 cs (Q 0 32) (Q 20) (F 20) (A 20) (B 20) (D 20)) ++ ((uX3 cs (Q 20 0) (Q 21) (F 21) (A 21) (B 21) (D 21)) ++ ((uX5 cs (Q 8 10) (Q 22) (F 22) (A 22) (B 22) (D 22)) ++ ((uX5 cs (Q 8 11) (Q 23) (F 23) (A 23) (B 23) (D 23)) ++ ((uX5 cs (Q 8 12) (Q 24) (F 24) (A 24) (B 24) (D 24)) ++ ((uX5 cs (Q 8 13) (Q 25) (F 25) (A 25) (B 25) (D 25)) ++ ((uX5 cs (Q 8 14) (Q 26) (F 26) (A 26) (B 26) (D 26)) ++ (mS cs h2 q2 MF MA MD MB))))))))))))))))))))))))) (runVD (As := [.int a1, .int 1, .int a3]) (rest := []) ⟨hx, hb, hml, hown, ht⟩ (sX10_tell_1 l G cs h1 (Q 0) (F 0) (A 0) (B 0) (D 0) hX.1 (Q 4) (F 4) (A 4) (B 4) (D 4) hX.2.2.2.2.1 (Q 5) (F 5) (A 5) (B 5) (D 5) hX.2.2.2.2.2.1 (Q 6) (F 6) (A 6) (B 6) (D 6) hX.2.2.2.2.2.2.1 a1 a3) okV_RL_245 ⟨(Nat.le_of_ble_eq_true rfl), (Nat.le_of_ble_eq_true rfl)⟩ hK hP hD [0, 1, 2, 14, 15, 16, 17, 18, 19, 20, 21, 22, 23, 24, 25, 26] rfl (by decide +kernel) rfl 0 rfl rfl hl.1 rfl (Nat.le_of_ble_eq_true rfl) dL_law_1838 ⟨(Nat.le_of_ble_eq_true rfl), (Nat.le_of_ble_eq_true rfl)⟩) hP hD hS (fun _ h => h) [0, 1, 2, 14, 15, 16, 17, 18, 19, 20, 21, 22, 23, 24, 25, 26] [3, 4, 5, 6, 7, 8, 9, 10, 11, 12, 13, 27, 28, 29, 30, 31, 32, 33, 34, 35, 36, 37, 38, 39, 40, 41, 42, 43, 44, 45, 46, 47, 48, 49, 50, 51, 52, 53, 54, 55, 56, 57, 58, 59, 60, 61, 62, 63, 64, 65, 66, 67, 68, 69, 70, 71, 72, 73, 74, 75, 76, 77, 78, 79, 80, 81, 82, 83, 84, 85, 86, 87, 88, 89, 90, 91, 92, 93, 94, 95, 96, 97, 98, 99, 100, 101, 102, 103, 104, 105, 106, 107, 108, 109, 110, 111, 112, 113, 114, 115, 116, 117, 118, 119, 120] rfl rfl (by decide +kernel) (by decide +kernel) (fun r9 u H locs hu hP hD hS => ?_)
    obtain ⟨x19, x20, g21, g22, g23⟩ := u
    obtain ⟨r18, rfl⟩ : ∃ z, z = r9 := ⟨_, rfl⟩
    have hr18 := hu
    have hP : va_P G vwCl (LW cs h1 Q h2 q2 (vA F 6 (upd (upd (F 6) 2 x19) 3 x20)) (vA (vA A 5 (vA (A 5) 8 g21)) 6 (vA (vA (A 6) 0 g22) 1 g23)) B D MF MA MD MB) H := hP.sub [105, 106, 107, 0, 1, 2, 3, 4, 5, 6, 7, 8, 9, 10, 108, 109, 110, 111, 112, 113, 114, 115, 116, 117, 118, 119, 120, 11, 12, 13, 14, 15, 16, 17, 18, 19, 20, 21, 22, 23, 24, 25, 26, 27, 28, 29, 30, 31, 32, 33, 34, 35, 36, 37, 38, 39, 40, 41, 42, 43, 44, 45, 46, 47, 48, 49, 50, 51, 52, 53, 54, 55, 56, 57, 58, 59, 60, 61, 62, 63, 64, 65, 66, 67, 68, 69, 70, 71, 72, 73, 74, 75, 76, 77, 78, 79, 80, 81, 82, 83, 84, 85, 86, 87, 88, 89, 90, 91, 92, 93, 94, 95, 96, 97, 98, 99, 100, 101, 102, 103, 104] rfl
    have hD : va_D (fun q : Nat => s.heap.size ≤ q) (LW cs h1 Q h2 q2 (vA F 6 (upd (upd (F 6) 2 x19) 3 x20)) (vA (vA A 5 (vA (A 5) 8 g21)) 6 (vA (vA (A 6) 0 g22) 1 g23)) B D MF MA MD MB) := hD.sub [105, 106, 107, 0, 1, 2, 3, 4, 5, 6, 7, 8, 9, 10, 108, 109, 110, 111, 112, 113, 114, 115, 116, 117, 118, 119, 120, 11, 12, 13, 14, 15, 16, 17, 18, 19, 20, 21, 22, 23, 24, 25, 26, 27, 28, 29, 30, 31, 32, 33, 34, 35, 36, 37, 38, 39, 40, 41, 42, 43, 44, 45, 46, 47, 48, 49, 50, 51, 52, 53, 54, 55, 56, 57, 58, 59, 60, 61, 62, 63, 64, 65, 66, 67, 68, 69, 70, 71, 72, 73, 74, 75, 76, 77, 78, 79, 80, 81, 82, 83, 84, 85, 86, 87, 88, 89, 90, 91, 92, 93, 94, 95, 96, 97, 98, 99, 100, 101, 102, 103, 104] (by decide +kernel) rfl
    refine lv_pop hx hb dL_law_1841 rfl ?_
    refine lv_aload_n hx hb dL_law_1842 rfl (lv_at hl 1 rfl) ?_
    refine lv_aload_n hx hb dL_law_1843 rfl (lv_at hl 3 rfl) ?_
    refine lv_iload_n hx hb dL_law_1844 rfl (lv_at hl 0 rfl) ?_
    refine lv_iconst (v := 1) hx hb dL_law_1845 (by decide) ?_
    refine lv_iadd hx hb dL_law_1846 ?_
    refine va_sld hx hb hXs hbl hbA hS (inK t1 (by omega) (by omega)) dL_law_1847 ?_
    refine W.eq (g2 := F0 m 1848 ls [.int a1, .ref h2]) (by rw [← ea1]) ?_
    refine lv_aload_n hx hb dL_law_1848 rfl (lv_at hl 3 rfl) ?_
    refine lv_iload_n hx hb dL_law_1849 rfl (lv_at hl 0 rfl) ?_
    refine lv_iconst (v := 2) hx hb dL_law_1850 (by decide) ?_
    refine lv_iadd hx hb dL_law_1851 ?_
    refine va_sld hx hb hXs hbl hbA hS (inK t2 (by omega) (by omega)) dL_law_1852 ?_
    refine W.eq (g2 := F0 m 1853 ls [.int 1, .int a1, .ref h2]) (by rw [← ea2]) ?_
    refine lv_aload_n hx hb dL_law_1853 rfl (lv_at hl 3 rfl) ?_
    refine lv_iload_n hx hb dL_law_1854 rfl (lv_at hl 0 rfl) ?_
    refine lv_iconst (v := 3) hx hb dL_law_1855 (by decide) ?_
    refine lv_iadd hx hb dL_law_1856 ?_
    refine va_sld hx hb hXs hbl hbA hS (inK t3 (by omega) (by omega)) dL_law_1857 ?_
    refine W.eq (g2 := F0 m 1858 ls [.int a3, .int 1, .int a1, .ref h2]) (by rw [← ea3]) ?_
    refine behDi (wr := (XLW cs h1 Q (vA F 6 (upd (upd (F 6) 2 x19) 3 x20)) (vA (vA A 5 (vA (A 5) 8 g21)) 6 (vA (vA (A 6) 0 g22) 1 g23)) B D)) (runVD (As := [.int a1, .int 1, .int a3]) (rest := []) ⟨hx, hb, hml, hown, ht⟩ (sX11_tell l G cs h2 q2 MF MA MD MB hM.1 a1 1 a3 hM.2.1) okV_RL_248 ⟨(Nat.le_of_ble_eq_true rfl), (Nat.le_of_ble_eq_true rfl)⟩ hK hP hD [101, 102, 103, 104, 105, 106, 107, 108, 109, 110, 111, 112, 113, 114, 115, 116, 117, 118, 119, 120] rfl (by decide +kernel) rfl 101 rfl rfl hl.1 rfl (Nat.le_of_ble_eq_true rfl) dL_law_1858 ⟨(Nat.le_of_ble_eq_true rfl), (Nat.le_of_ble_eq_true rfl)⟩) hP hD hS (fun _ h => h) [101, 102, 103, 104, 105, 106, 107, 108, 109, 110, 111, 112, 113, 114, 115, 116, 117, 118, 119, 120] [0, 1, 2, 3, 4, 5, 6, 7, 8, 9, 10, 11, 12, 13, 14, 15, 16, 17, 18, 19, 20, 21, 22, 23, 24, 25, 26, 27, 28, 29, 30, 31, 32, 33, 34, 35, 36, 37, 38, 39, 40, 41, 42, 43, 44, 45, 46, 47, 48, 49, 50, 51, 52, 53, 54, 55, 56, 57, 58, 59, 60, 61, 62, 63, 64, 65, 66, 67, 68, 69, 70, 71, 72, 73, 74, 75, 76, 77, 78, 79, 80, 81, 82, 83, 84, 85, 86, 87, 88, 89, 90, 91, 92, 93, 94, 95, 96, 97, 98, 99, 100] rfl rfl (by decide +kernel) (by decide +kernel) (fun r9 u H locs hu hP hD hS => ?_)
    obtain ⟨g25, rfl⟩ : ∃ z, z = u := ⟨_, rfl⟩
    obtain ⟨r24, rfl⟩ : ∃ z, z = r9 := ⟨_, rfl⟩
    obtain ⟨hg25, hr24⟩ := hu
    have hg25 : AI 1 g25 := hg25
    have kk26 : (1 : Int32).toInt = 1 := by decide
    have hr24 : WG g25 := hr24
    have hP : va_P G vwCl (LW cs h1 Q h2 q2 (vA F 6 (upd (upd (F 6) 2 x19) 3 x20)) (vA (vA A 5 (vA (A 5) 8 g21)) 6 (vA (vA (A 6) 0 g22) 1 g23)) B D MF (vA MA 1 g25) MD MB) H := hP
    have hD : va_D (fun q : Nat => s.heap.size ≤ q) (LW cs h1 Q h2 q2 (vA F 6 (upd (upd (F 6) 2 x19) 3 x20)) (vA (vA A 5 (vA (A 5) 8 g21)) 6 (vA (vA (A 6) 0 g22) 1 g23)) B D MF (vA MA 1 g25) MD MB) := hD
    refine lv_pop hx hb dL_law_1861 rfl ?_
    refine lv_goto (tgt := 2156) hx hb dL_law_1862 (by decide) ?_
    exact kk (vA F 6 (upd (upd (F 6) 2 x19) 3 x20)) (vA (vA A 5 (vA (A 5) 8 g21)) 6 (vA (vA (A 6) 0 g22) 1 g23)) B D MF (vA MA 1 g25) MD MB H locs ls ⟨hX.1, hX.2.1, hX.2.2.1, hX.2.2.2.1, hX.2.2.2.2.1, (IB_arr (k := 8) hX.2.2.2.2.2.1 (AJ_full _)), (IB_arr (k := 1) (IB_arr (k := 0) (IB_put (k := 3) (IB_put (k := 2) hX.2.2.2.2.2.2.1 (i32b _)) (i32b _)) (AJ_full _)) (AJ_full _)), hX.2.2.2.2.2.2.2.1, hX.2.2.2.2.2.2.2.2.1, hX.2.2.2.2.2.2.2.2.2.1, hX.2.2.2.2.2.2.2.2.2.2.1, hX.2.2.2.2.2.2.2.2.2.2.2.1, hX.2.2.2.2.2.2.2.2.2.2.2.2.1, hX.2.2.2.2.2.2.2.2.2.2.2.2.2.1, hX.2.2.2.2.2.2.2.2.2.2.2.2.2.2.1, hX.2.2.2.2.2.2.2.2.2.2.2.2.2.2.2.1, hX.2.2.2.2.2.2.2.2.2.2.2.2.2.2.2.2.1, hX.2.2.2.2.2.2.2.2.2.2.2.2.2.2.2.2.2.1, hX.2.2.2.2.2.2.2.2.2.2.2.2.2.2.2.2.2.2.1, hX.2.2.2.2.2.2.2.2.2.2.2.2.2.2.2.2.2.2.2.1, hX.2.2.2.2.2.2.2.2.2.2.2.2.2.2.2.2.2.2.2.2.1, hX.2.2.2.2.2.2.2.2.2.2.2.2.2.2.2.2.2.2.2.2.2.1, hX.2.2.2.2.2.2.2.2.2.2.2.2.2.2.2.2.2.2.2.2.2.2.1, hX.2.2.2.2.2.2.2.2.2.2.2.2.2.2.2.2.2.2.2.2.2.2.2.1, hX.2.2.2.2.2.2.2.2.2.2.2.2.2.2.2.2.2.2.2.2.2.2.2.2.1, hX.2.2.2.2.2.2.2.2.2.2.2.2.2.2.2.2.2.2.2.2.2.2.2.2.2.1, hX.2.2.2.2.2.2.2.2.2.2.2.2.2.2.2.2.2.2.2.2.2.2.2.2.2.2⟩ ⟨(IM_arr (k := 1) hM.1 hg25), hr24, hM.2.2⟩ hR hP hD hS hl
  · refine behDi (wr := ((uX6 cs (Q 0 0) (fun _ => Q 0 1) (F 1) (A 1) (B 1) (D 1)) ++ ((uX9 cs (Q 0 1) (Q 2) (F 2) (A 2) (B 2) (D 2)) ++ ((uX3 cs (Q 0 2) (Q 3) (F 3) (A 3) (B 3) (D 3)) ++ ((uX5 cs (Q 0 7) (Q 7) (F 7) (A 7) (B 7) (D 7)) ++ ((uX0 cs (Q 0 8) (Q 8) (F 8) (A 8) (B 8) (D 8)) ++ ((uX1 cs (Q 0 9) (Q 9) (F 9) (A 9) (B 9) (D 9)) ++ ((uX4 cs (Q 0 10) (Q 10) (F 10) (A 10) (B 10) (D 10)) ++ ((uX2 cs (Q 0 11) (Q 11) (F 11) (A 11) (B 11) (D 11)) ++ ((uX7 cs (Q 0 20) (Q 12) (F 12) (A 12) (B 12) (D 12)) ++ ((uX7 cs (Q 0 21) (Q 13) (F 13) (A 13) (B 13) (D 13)) ++ ((uX7 cs (Q 0 22) (Q 14) (F 14) (A 14) (B 14) (D 14)) ++ ((uX7 cs (Q 0 23) (Q 15) (F 15) (A 15) (B 15) (D 15)) ++ ((uX8 cs (Q 0 30) (Q 16) (F 16) (A 16) (B 16) (D 16)) ++ ((uX3 cs (Q 16 0) (Q 17) (F 17) (A 17) (B 17) (D 17)) ++ ((uX8 cs (Q 0 31) (Q 18) (F 18) (A 18) (B 18) (D 18)) ++ ((uX3 cs (Q 18 0) (Q 19) (F 19) (A 19) (B 19) (D 19)) ++ ((uX8 cs (Q 0 32) (Q 20) (F 20) (A 20) (B 20) (D 20)) ++ ((uX3 cs (Q 20 0) (Q 21) (F 21) (A 21) (B 21) (D 21)) ++ ((uX5 cs (Q 8 10) (Q 22) (F 22) (A 22) (B 22) (D 22)) ++ ((uX5 cs (Q 8 11) (Q 23) (F 23) (A 23) (B 23) (D 23)) ++ ((uX5 cs (Q 8 12) (Q 24) (F 24) (A 24) (B 24) (D 24)) ++ ((uX5 cs (Q 8 13) (Q 25) (F 25) (A 25) (B 25) (D 25)) ++ ((uX5 cs (Q 8 14) (Q 26) (F 26) (A 26) (B 26) (D 26)) ++ (mS cs h2 q2 MF MA MD MB))))))))))))))))))))))))) (runVD (As := [.int a1, .int 2, .int a3]) (rest := []) ⟨hx, hb, hml, hown, ht⟩ (sX10_tell_2 l G cs h1 (Q 0) (F 0) (A 0) (B 0) (D 0) hX.1 (Q 4) (F 4) (A 4) (B 4) (D 4) hX.2.2.2.2.1 (Q 5) (F 5) (A 5) (B 5) (D 5) hX.2.2.2.2.2.1 (Q 6) (F 6) (A 6) (B 6) (D 6) hX.2.2.2.2.2.2.1 a1 a3) okV_RL_245 ⟨(Nat.le_of_ble_eq_true rfl), (Nat.le_of_ble_eq_true rfl)⟩ hK hP hD [0, 1, 2, 14, 15, 16, 17, 18, 19, 20, 21, 22, 23, 24, 25, 26] rfl (by decide +kernel) rfl 0 rfl rfl hl.1 rfl (Nat.le_of_ble_eq_true rfl) dL_law_1838 ⟨(Nat.le_of_ble_eq_true rfl), (Nat.le_of_ble_eq_true rfl)⟩) hP hD hS (fun _ h => h) [0, 1, 2, 14, 15, 16, 17, 18, 19, 20, 21, 22, 23, 24, 25, 26] [3, 4, 5, 6, 7, 8, 9, 10, 11, 12, 13, 27, 28, 29, 30, 31, 32, 33, 34, 35, 36, 37, 38, 39, 40, 41, 42, 43, 44, 45, 46, 47, 48, 49, 50, 51, 52, 53, 54, 55, 56, 57, 58, 59, 60, 61, 62, 63, 64, 65, 66, 67, 68, 69, 70, 71, 72, 73, 74, 75, 76, 77, 78, 79, 80, 81, 82, 83, 84, 85, 86, 87, 88, 89, 90, 91, 92, 93, 94, 95, 96, 97, 98, 99, 100, 101, 102, 103, 104, 105, 106, 107, 108, 109, 110, 111, 112, 113, 114, 115, 116, 117, 118, 119, 120] rfl rfl (by decide +kernel) (by decide +kernel) (fun r9 u H locs hu hP hD hS => ?_)
    obtain ⟨x28, x29, g30, g31, g32⟩ := u
    obtain ⟨r27, rfl⟩ : ∃ z, z = r9 := ⟨_, rfl⟩
    have hr27 := hu
    have hP : va_P G vwCl (LW cs h1 Q h2 q2 (vA F 6 (upd (upd (F 6) 2 x28) 3 x29)) (vA (vA A 5 (vA (A 5) 9 g30)) 6 (vA (vA (A 6) 0 g31) 1 g32)) B D MF MA MD MB) H := hP.sub [105, 106, 107, 0, 1, 2, 3, 4, 5, 6, 7, 8, 9, 10, 108, 109, 110, 111, 112, 113, 114, 115, 116, 117, 118, 119, 120, 11, 12, 13, 14, 15, 16, 17, 18, 19, 20, 21, 22, 23, 24, 25, 26, 27, 28, 29, 30, 31, 32, 33, 34, 35, 36, 37, 38, 39, 40, 41, 42, 43, 44, 45, 46, 47, 48, 49, 50, 51, 52, 53, 54, 55, 56, 57, 58, 59, 60, 61, 62, 63, 64, 65, 66, 67, 68, 69, 70, 71, 72, 73, 74, 75, 76, 77, 78, 79, 80, 81, 82, 83, 84, 85, 86, 87, 88, 89, 90, 91, 92, 93, 94, 95, 96, 97, 98, 99, 100, 101, 102, 103, 104] rfl
    have hD : va_D (fun q : Nat => s.heap.size ≤ q) (LW cs h1 Q h2 q2 (vA F 6 (upd (upd (F 6) 2 x28) 3 x29)) (vA (vA A 5 (vA (A 5) 9 g30)) 6 (vA (vA (A 6) 0 g31) 1 g32)) B D MF MA MD MB) := hD.sub [105, 106, 107, 0, 1, 2, 3, 4, 5, 6, 7, 8, 9, 10, 108, 109, 110, 111, 112, 113, 114, 115, 116, 117, 118, 119, 120, 11, 12, 13, 14, 15, 16, 17, 18, 19, 20, 21, 22, 23, 24, 25, 26, 27, 28, 29, 30, 31, 32, 33, 34, 35, 36, 37, 38, 39, 40, 41, 42, 43, 44, 45, 46, 47, 48, 49, 50, 51, 52, 53, 54, 55, 56, 57, 58, 59, 60, 61, 62, 63, 64, 65, 66, 67, 68, 69, 70, 71, 72, 73, 74, 75, 76, 77, 78, 79, 80, 81, 82, 83, 84, 85, 86, 87, 88, 89, 90, 91, 92, 93, 94, 95, 96, 97, 98, 99, 100, 101, 102, 103, 104] (by decide +kernel) rfl
    refine lv_pop hx hb dL_law_1841 rfl ?_
    refine lv_aload_n hx hb dL_law_1842 rfl (lv_at hl 1 rfl) ?_
    refine lv_aload_n hx hb dL_law_1843 rfl (lv_at hl 3 rfl) ?_
    refine lv_iload_n hx hb dL_law_1844 rfl (lv_at hl 0 rfl) ?_
    refine lv_iconst (v := 1) hx hb dL_law_1845 (by decide) ?_
    refine lv_iadd hx hb dL_law_1846 ?_
    refine va_sld hx hb hXs hbl hbA hS (inK t1 (by omega) (by omega)) dL_law_1847 ?_
    refine W.eq (g2 := F0 m 1848 ls [.int a1, .ref h2]) (by rw [← ea1]) ?_
    refine lv_aload_n hx hb dL_law_1848 rfl (lv_at hl 3 rfl) ?_
    refine lv_iload_n hx hb dL_law_1849 rfl (lv_at hl 0 rfl) ?_
    refine lv_iconst (v := 2) hx hb dL_law_1850 (by decide) ?_
    refine lv_iadd hx hb dL_law_1851 ?_
    refine va_sld hx hb hXs hbl hbA hS (inK t2 (by omega) (by omega)) dL_law_1852 ?_
    refine W.eq (g2 := F0 m 1853 ls [.int 2, .int a1, .ref h2]) (by rw [← ea2]) ?_
    refine lv_aload_n hx hb dL_law_1853 rfl (lv_at hl 3 rfl) ?_
    refine lv_iload_n hx hb dL_law_1854 rfl (lv_at hl 0 rfl) ?_
    refine lv_iconst (v := 3) hx hb dL_law_1855 (by decide) ?_
    refine lv_iadd hx hb dL_law_1856 ?_
    refine va_sld hx hb hXs hbl hbA hS (inK t3 (by omega) (by omega)) dL_law_1857 ?_
    refine W.eq (g2 := F0 m 1858 ls [.int a3, .int 2, .int a1, .ref h2]) (by rw [← ea3]) ?_
    refine behDi (wr := (XLW cs h1 Q (vA F 6 (upd (upd (F 6) 2 x28) 3 x29)) (vA (vA A 5 (vA (A 5) 9 g30)) 6 (vA (vA (A 6) 0 g31) 1 g32)) B D)) (runVD (As := [.int a1, .int 2, .int a3]) (rest := []) ⟨hx, hb, hml, hown, ht⟩ (sX11_tell l G cs h2 q2 MF MA MD MB hM.1 a1 2 a3 hM.2.1) okV_RL_248 ⟨(Nat.le_of_ble_eq_true rfl), (Nat.le_of_ble_eq_true rfl)⟩ hK hP hD [101, 102, 103, 104, 105, 106, 107, 108, 109, 110, 111, 112, 113, 114, 115, 116, 117, 118, 119, 120] rfl (by decide +kernel) rfl 101 rfl rfl hl.1 rfl (Nat.le_of_ble_eq_true rfl) dL_law_1858 ⟨(Nat.le_of_ble_eq_true rfl), (Nat.le_of_ble_eq_true rfl)⟩) hP hD hS (fun _ h => h) [101, 102, 103, 104, 105, 106, 107, 108, 109, 110, 111, 112, 113, 114, 115, 116, 117, 118, 119, 120] [0, 1, 2, 3, 4, 5, 6, 7, 8, 9, 10, 11, 12, 13, 14, 15, 16, 17, 18, 19, 20, 21, 22, 23, 24, 25, 26, 27, 28, 29, 30, 31, 32, 33, 34, 35, 36, 37, 38, 39, 40, 41, 42, 43, 44, 45, 46, 47, 48, 49, 50, 51, 52, 53, 54, 55, 56, 57, 58, 59, 60, 61, 62, 63, 64, 65, 66, 67, 68, 69, 70, 71, 72, 73, 74, 75, 76, 77, 78, 79, 80, 81, 82, 83, 84, 85, 86, 87, 88, 89, 90, 91, 92, 93, 94, 95, 96, 97, 98, 99, 100] rfl rfl (by decide +kernel) (by decide +kernel) (fun r9 u H locs hu hP hD hS => ?_)
    obtain ⟨g34, rfl⟩ : ∃ z, z = u := ⟨_, rfl⟩
    obtain ⟨r33, rfl⟩ : ∃ z, z = r9 := ⟨_, rfl⟩
    obtain ⟨hg34, hr33⟩ := hu
    have hg34 : AI 1 g34 := hg34
    have kk35 : (2 : Int32).toInt = 2 := by decide
    have hr33 : WG g34 := hr33
    have hP : va_P G vwCl (LW cs h1 Q h2 q2 (vA F 6 (upd (upd (F 6) 2 x28) 3 x29)) (vA (vA A 5 (vA (A 5) 9 g30)) 6 (vA (vA (A 6) 0 g31) 1 g32)) B D MF (vA MA 1 g34) MD MB) H := hP
    have hD : va_D (fun q : Nat => s.heap.size ≤ q) (LW cs h1 Q h2 q2 (vA F 6 (upd (upd (F 6) 2 x28) 3 x29)) (vA (vA A 5 (vA (A 5) 9 g30)) 6 (vA (vA (A 6) 0 g31) 1 g32)) B D MF (vA MA 1 g34) MD MB) := hD
    refine lv_pop hx hb dL_law_1861 rfl ?_
    refine lv_goto (tgt := 2156) hx hb dL_law_1862 (by decide) ?_
    exact kk (vA F 6 (upd (upd (F 6) 2 x28) 3 x29)) (vA (vA A 5 (vA (A 5) 9 g30)) 6 (vA (vA (A 6) 0 g31) 1 g32)) B D MF (vA MA 1 g34) MD MB H locs ls ⟨hX.1, hX.2.1, hX.2.2.1, hX.2.2.2.1, hX.2.2.2.2.1, (IB_arr (k := 9) hX.2.2.2.2.2.1 (AJ_full _)), (IB_arr (k := 1) (IB_arr (k := 0) (IB_put (k := 3) (IB_put (k := 2) hX.2.2.2.2.2.2.1 (i32b _)) (i32b _)) (AJ_full _)) (AJ_full _)), hX.2.2.2.2.2.2.2.1, hX.2.2.2.2.2.2.2.2.1, hX.2.2.2.2.2.2.2.2.2.1, hX.2.2.2.2.2.2.2.2.2.2.1, hX.2.2.2.2.2.2.2.2.2.2.2.1, hX.2.2.2.2.2.2.2.2.2.2.2.2.1, hX.2.2.2.2.2.2.2.2.2.2.2.2.2.1, hX.2.2.2.2.2.2.2.2.2.2.2.2.2.2.1, hX.2.2.2.2.2.2.2.2.2.2.2.2.2.2.2.1, hX.2.2.2.2.2.2.2.2.2.2.2.2.2.2.2.2.1, hX.2.2.2.2.2.2.2.2.2.2.2.2.2.2.2.2.2.1, hX.2.2.2.2.2.2.2.2.2.2.2.2.2.2.2.2.2.2.1, hX.2.2.2.2.2.2.2.2.2.2.2.2.2.2.2.2.2.2.2.1, hX.2.2.2.2.2.2.2.2.2.2.2.2.2.2.2.2.2.2.2.2.1, hX.2.2.2.2.2.2.2.2.2.2.2.2.2.2.2.2.2.2.2.2.2.1, hX.2.2.2.2.2.2.2.2.2.2.2.2.2.2.2.2.2.2.2.2.2.2.1, hX.2.2.2.2.2.2.2.2.2.2.2.2.2.2.2.2.2.2.2.2.2.2.2.1, hX.2.2.2.2.2.2.2.2.2.2.2.2.2.2.2.2.2.2.2.2.2.2.2.2.1, hX.2.2.2.2.2.2.2.2.2.2.2.2.2.2.2.2.2.2.2.2.2.2.2.2.2.1, hX.2.2.2.2.2.2.2.2.2.2.2.2.2.2.2.2.2.2.2.2.2.2.2.2.2.2⟩ ⟨(IM_arr (k := 1) hM.1 hg34), hr33, hM.2.2⟩ hR hP hD hS hl

set_option maxRecDepth 100000 in
set_option maxHeartbeats 16000000 in
theorem law_57 {p : Program} {l : Launch} {e : Env} {s : State} {m : MethodId} {below : List Frame} {meth : Method} {c : Code} {b L : Nat} {xs : Nat → Int32} {G : va_G} {cs : Nat → ClassId} {h1 : Nat} {Q : Nat → Nat → Nat} {h2 : Nat} {q2 : Nat → Nat} {sd : Nat → Nat × Nat} {i : Int32} : LCase p l e s m below meth c b G cs h1 Q h2 q2 i L xs sd 57 := by
  intro C0 hL hK hQ hQM hi0 hi6 kk F A B D MF MA MD MB H locs ls hX hM hR hP hD hS hl
  obtain ⟨hx, hb, hr, hml, hown, hts, hXs, hbl, hlocks, hgv⟩ := id C0
  have hown : s.vm.findClass RL = some m.cls := hown
  have ht : ∀ w ∈ tb, w.before #[Value.ref b] s = true := fun w h => hts w (List.mem_filter.mp h).1
  have hbA : ¬ (fun q : Nat => s.heap.size ≤ q) b := Nat.not_le.mpr hbl
  have t1 : (i + 1).toInt = i.toInt + 1 := addT rfl (by decide) (by omega)
  obtain ⟨a1, ea1⟩ : ∃ z : Int32, z = xs (i + 1).toNatClampNeg := ⟨_, rfl⟩
  have t2 : (i + 2).toInt = i.toInt + 2 := addT rfl (by decide) (by omega)
  obtain ⟨a2, ea2⟩ : ∃ z : Int32, z = xs (i + 2).toNatClampNeg := ⟨_, rfl⟩
  have t3 : (i + 3).toInt = i.toInt + 3 := addT rfl (by decide) (by omega)
  obtain ⟨a3, ea3⟩ : ∃ z : Int32, z = xs (i + 3).toNatClampNeg := ⟨_, rfl⟩
  refine lv_tableIn (off := 1832) (tgt := 1865) hx hb dL_law_33 (by decide) (by decide) (by decide) (by decide) ?_
  refine lv_aload_n hx hb dL_law_1865 rfl (lv_at hl 2 rfl) ?_
  refine lv_aload_n hx hb dL_law_1866 rfl (lv_at hl 3 rfl) ?_
  refine lv_iload_n hx hb dL_law_1867 rfl (lv_at hl 0 rfl) ?_
  refine lv_iconst (v := 1) hx hb dL_law_1868 (by decide) ?_
  refine lv_iadd hx hb dL_law_1869 ?_
  refine va_sld hx hb hXs hbl hbA hS (inK t1 (by omega) (by omega)) dL_law_1870 ?_
  refine W.eq (g2 := F0 m 1871 ls [.int a1, .ref h1]) (by rw [← ea1]) ?_
  refine lv_aload_n hx hb dL_law_1871 rfl (lv_at hl 3 rfl) ?_
  refine lv_iload_n hx hb dL_law_1872 rfl (lv_at hl 0 rfl) ?_
  refine lv_iconst (v := 2) hx hb dL_law_1873 (by decide) ?_
  refine lv_iadd hx hb dL_law_1874 ?_
  refine va_sld hx hb hXs hbl hbA hS (inK t2 (by omega) (by omega)) dL_law_1875 ?_
  refine W.eq (g2 := F0 m 1876 ls [.int a2, .int a1, .ref h1]) (by rw [← ea2]) ?_
  refine lv_aload_n hx hb dL_law_1876 rfl (lv_at hl 3 rfl) ?_
  refine lv_iload_n hx hb dL_law_1877 rfl (lv_at hl 0 rfl) ?_
  refine lv_iconst (v := 3) hx hb dL_law_1878 (by decide) ?_
  refine lv_iadd hx hb dL_law_1879 ?_
  refine va_sld hx hb hXs hbl hbA hS (inK t3 (by omega) (by omega)) dL_law_1880 ?_
  refine W.eq (g2 := F0 m 1881 ls [.int a3, .int a2, .int a1, .ref h1]) (by rw [← ea3]) ?_
  refine behDi (wr := ((uX6 cs (Q 0 0) (fun _ => Q 0 1) (F 1) (A 1) (B 1) (D 1)) ++ ((uX9 cs (Q 0 1) (Q 2) (F 2) (A 2) (B 2) (D 2)) ++ ((uX3 cs (Q 0 2) (Q 3) (F 3) (A 3) (B 3) (D 3)) ++ ((uX5 cs (Q 0 6) (Q 6) (F 6) (A 6) (B 6) (D 6)) ++ ((uX5 cs (Q 0 7) (Q 7) (F 7) (A 7) (B 7) (D 7)) ++ ((uX0 cs (Q 0 8) (Q 8) (F 8) (A 8) (B 8) (D 8)) ++ ((uX1 cs (Q 0 9) (Q 9) (F 9) (A 9) (B 9) (D 9)) ++ ((uX4 cs (Q 0 10) (Q 10) (F 10) (A 10) (B 10) (D 10)) ++ ((uX2 cs (Q 0 11) (Q 11) (F 11) (A 11) (B 11) (D 11)) ++ ((uX7 cs (Q 0 20) (Q 12) (F 12) (A 12) (B 12) (D 12)) ++ ((uX7 cs (Q 0 21) (Q 13) (F 13) (A 13) (B 13) (D 13)) ++ ((uX7 cs (Q 0 22) (Q 14) (F 14) (A 14) (B 14) (D 14)) ++ ((uX7 cs (Q 0 23) (Q 15) (F 15) (A 15) (B 15) (D 15)) ++ ((uX8 cs (Q 0 30) (Q 16) (F 16) (A 16) (B 16) (D 16)) ++ ((uX3 cs (Q 16 0) (Q 17) (F 17) (A 17) (B 17) (D 17)) ++ ((uX8 cs (Q 0 31) (Q 18) (F 18) (A 18) (B 18) (D 18)) ++ ((uX3 cs (Q 18 0) (Q 19) (F 19) (A 19) (B 19) (D 19)) ++ ((uX8 cs (Q 0 32) (Q 20) (F 20) (A 20) (B 20) (D 20)) ++ ((uX3 cs (Q 20 0) (Q 21) (F 21) (A 21) (B 21) (D 21)) ++ ((uX5 cs (Q 8 10) (Q 22) (F 22) (A 22) (B 22) (D 22)) ++ ((uX5 cs (Q 8 11) (Q 23) (F 23) (A 23) (B 23) (D 23)) ++ ((uX5 cs (Q 8 12) (Q 24) (F 24) (A 24) (B 24) (D 24)) ++ ((uX5 cs (Q 8 13) (Q 25) (F 25) (A 25) (B 25) (D 25)) ++ ((uX5 cs (Q 8 14) (Q 26) (F 26) (A 26) (B 26) (D 26)) ++ (mS cs h2 q2 MF MA MD MB)))))))))))))))))))))))))) (runVD (As := [.int a1, .int a2, .int a3]) (rest := []) ⟨hx, hb, hml, hown, ht⟩ (sX10_shut l G cs h1 (Q 0) (F 0) (A 0) (B 0) (D 0) hX.1 (Q 4) (F 4) (A 4) (B 4) (D 4) hX.2.2.2.2.1 (Q 5) (F 5) (A 5) (B 5) (D 5) hX.2.2.2.2.2.1 a1 a2 a3) okV_RL_249 ⟨(Nat.le_of_ble_eq_true rfl), (Nat.le_of_ble_eq_true rfl)⟩ hK hP hD [0, 1, 2, 14, 15, 16, 17, 18, 19, 20, 21, 22, 23] rfl (by decide +kernel) rfl 0 rfl rfl hl.1 rfl (Nat.le_of_ble_eq_true rfl) dL_law_1881 ⟨(Nat.le_of_ble_eq_true rfl), (Nat.le_of_ble_eq_true rfl)⟩) hP hD hS (fun _ h => h) [0, 1, 2, 14, 15, 16, 17, 18, 19, 20, 21, 22, 23] [3, 4, 5, 6, 7, 8, 9, 10, 11, 12, 13, 24, 25, 26, 27, 28, 29, 30, 31, 32, 33, 34, 35, 36, 37, 38, 39, 40, 41, 42, 43, 44, 45, 46, 47, 48, 49, 50, 51, 52, 53, 54, 55, 56, 57, 58, 59, 60, 61, 62, 63, 64, 65, 66, 67, 68, 69, 70, 71, 72, 73, 74, 75, 76, 77, 78, 79, 80, 81, 82, 83, 84, 85, 86, 87, 88, 89, 90, 91, 92, 93, 94, 95, 96, 97, 98, 99, 100, 101, 102, 103, 104, 105, 106, 107, 108, 109, 110, 111, 112, 113, 114, 115, 116, 117, 118, 119, 120] rfl rfl (by decide +kernel) (by decide +kernel) (fun r9 u H locs hu hP hD hS => ?_)
  obtain ⟨g2, rfl⟩ : ∃ z, z = u := ⟨_, rfl⟩
  obtain ⟨r1, rfl⟩ : ∃ z, z = r9 := ⟨_, rfl⟩
  obtain ⟨hg2, hr1⟩ := hu
  have hg2 : AJ (0) 127 g2 := hg2
  have hP : va_P G vwCl (LW cs h1 Q h2 q2 F (vA A 5 (vA (A 5) 10 g2)) B D MF MA MD MB) H := hP.sub [108, 109, 110, 0, 1, 2, 3, 4, 5, 6, 7, 8, 9, 10, 111, 112, 113, 114, 115, 116, 117, 118, 119, 120, 11, 12, 13, 14, 15, 16, 17, 18, 19, 20, 21, 22, 23, 24, 25, 26, 27, 28, 29, 30, 31, 32, 33, 34, 35, 36, 37, 38, 39, 40, 41, 42, 43, 44, 45, 46, 47, 48, 49, 50, 51, 52, 53, 54, 55, 56, 57, 58, 59, 60, 61, 62, 63, 64, 65, 66, 67, 68, 69, 70, 71, 72, 73, 74, 75, 76, 77, 78, 79, 80, 81, 82, 83, 84, 85, 86, 87, 88, 89, 90, 91, 92, 93, 94, 95, 96, 97, 98, 99, 100, 101, 102, 103, 104, 105, 106, 107] rfl
  have hD : va_D (fun q : Nat => s.heap.size ≤ q) (LW cs h1 Q h2 q2 F (vA A 5 (vA (A 5) 10 g2)) B D MF MA MD MB) := hD.sub [108, 109, 110, 0, 1, 2, 3, 4, 5, 6, 7, 8, 9, 10, 111, 112, 113, 114, 115, 116, 117, 118, 119, 120, 11, 12, 13, 14, 15, 16, 17, 18, 19, 20, 21, 22, 23, 24, 25, 26, 27, 28, 29, 30, 31, 32, 33, 34, 35, 36, 37, 38, 39, 40, 41, 42, 43, 44, 45, 46, 47, 48, 49, 50, 51, 52, 53, 54, 55, 56, 57, 58, 59, 60, 61, 62, 63, 64, 65, 66, 67, 68, 69, 70, 71, 72, 73, 74, 75, 76, 77, 78, 79, 80, 81, 82, 83, 84, 85, 86, 87, 88, 89, 90, 91, 92, 93, 94, 95, 96, 97, 98, 99, 100, 101, 102, 103, 104, 105, 106, 107] (by decide +kernel) rfl
  refine lv_pop hx hb dL_law_1884 rfl ?_
  refine lv_aload_n hx hb dL_law_1885 rfl (lv_at hl 1 rfl) ?_
  refine lv_aload_n hx hb dL_law_1886 rfl (lv_at hl 3 rfl) ?_
  refine lv_iload_n hx hb dL_law_1887 rfl (lv_at hl 0 rfl) ?_
  refine lv_iconst (v := 1) hx hb dL_law_1888 (by decide) ?_
  refine lv_iadd hx hb dL_law_1889 ?_
  refine va_sld hx hb hXs hbl hbA hS (inK t1 (by omega) (by omega)) dL_law_1890 ?_
  refine W.eq (g2 := F0 m 1891 ls [.int a1, .ref h2]) (by rw [← ea1]) ?_
  refine lv_aload_n hx hb dL_law_1891 rfl (lv_at hl 3 rfl) ?_
  refine lv_iload_n hx hb dL_law_1892 rfl (lv_at hl 0 rfl) ?_
  refine lv_iconst (v := 2) hx hb dL_law_1893 (by decide) ?_
  refine lv_iadd hx hb dL_law_1894 ?_
  refine va_sld hx hb hXs hbl hbA hS (inK t2 (by omega) (by omega)) dL_law_1895 ?_
  refine W.eq (g2 := F0 m 1896 ls [.int a2, .int a1, .ref h2]) (by rw [← ea2]) ?_
  refine lv_aload_n hx hb dL_law_1896 rfl (lv_at hl 3 rfl) ?_
  refine lv_iload_n hx hb dL_law_1897 rfl (lv_at hl 0 rfl) ?_
  refine lv_iconst (v := 3) hx hb dL_law_1898 (by decide) ?_
  refine lv_iadd hx hb dL_law_1899 ?_
  refine va_sld hx hb hXs hbl hbA hS (inK t3 (by omega) (by omega)) dL_law_1900 ?_
  refine W.eq (g2 := F0 m 1901 ls [.int a3, .int a2, .int a1, .ref h2]) (by rw [← ea3]) ?_
  refine behDi (wr := (XLW cs h1 Q F (vA A 5 (vA (A 5) 10 g2)) B D)) (runVD (As := [.int a1, .int a2, .int a3]) (rest := []) ⟨hx, hb, hml, hown, ht⟩ (sX11_shut l G cs h2 q2 MF MA MD MB hM.1 a1 a2 a3 hM.2.1) okV_RL_252 ⟨(Nat.le_of_ble_eq_true rfl), (Nat.le_of_ble_eq_true rfl)⟩ hK hP hD [101, 102, 103, 104, 105, 106, 107, 108, 109, 110, 111, 112, 113, 114, 115, 116, 117, 118, 119, 120] rfl (by decide +kernel) rfl 101 rfl rfl hl.1 rfl (Nat.le_of_ble_eq_true rfl) dL_law_1901 ⟨(Nat.le_of_ble_eq_true rfl), (Nat.le_of_ble_eq_true rfl)⟩) hP hD hS (fun _ h => h) [101, 102, 103, 104, 105, 106, 107, 108, 109, 110, 111, 112, 113, 114, 115, 116, 117, 118, 119, 120] [0, 1, 2, 3, 4, 5, 6, 7, 8, 9, 10, 11, 12, 13, 14, 15, 16, 17, 18, 19, 20, 21, 22, 23, 24, 25, 26, 27, 28, 29, 30, 31, 32, 33, 34, 35, 36, 37, 38, 39, 40, 41, 42, 43, 44, 45, 46, 47, 48, 49, 50, 51, 52, 53, 54, 55, 56, 57, 58, 59, 60, 61, 62, 63, 64, 65, 66, 67, 68, 69, 70, 71, 72, 73, 74, 75, 76, 77, 78, 79, 80, 81, 82, 83, 84, 85, 86, 87, 88, 89, 90, 91, 92, 93, 94, 95, 96, 97, 98, 99, 100] rfl rfl (by decide +kernel) (by decide +kernel) (fun r9 u H locs hu hP hD hS => ?_)
  obtain ⟨g4, rfl⟩ : ∃ z, z = u := ⟨_, rfl⟩
  obtain ⟨r3, rfl⟩ : ∃ z, z = r9 := ⟨_, rfl⟩
  obtain ⟨hg4, hr3⟩ := hu
  have hg4 : AI 1 g4 := hg4
  have hr3 : WG g4 := hr3
  have hP : va_P G vwCl (LW cs h1 Q h2 q2 F (vA A 5 (vA (A 5) 10 g2)) B D MF (vA MA 1 g4) MD MB) H := hP
  have hD : va_D (fun q : Nat => s.heap.size ≤ q) (LW cs h1 Q h2 q2 F (vA A 5 (vA (A 5) 10 g2)) B D MF (vA MA 1 g4) MD MB) := hD
  refine lv_pop hx hb dL_law_1904 rfl ?_
  refine lv_goto (tgt := 2156) hx hb dL_law_1905 (by decide) ?_
  exact kk F (vA A 5 (vA (A 5) 10 g2)) B D MF (vA MA 1 g4) MD MB H locs ls ⟨hX.1, hX.2.1, hX.2.2.1, hX.2.2.2.1, hX.2.2.2.2.1, (IB_arr (k := 10) hX.2.2.2.2.2.1 hg2), hX.2.2.2.2.2.2.1, hX.2.2.2.2.2.2.2.1, hX.2.2.2.2.2.2.2.2.1, hX.2.2.2.2.2.2.2.2.2.1, hX.2.2.2.2.2.2.2.2.2.2.1, hX.2.2.2.2.2.2.2.2.2.2.2.1, hX.2.2.2.2.2.2.2.2.2.2.2.2.1, hX.2.2.2.2.2.2.2.2.2.2.2.2.2.1, hX.2.2.2.2.2.2.2.2.2.2.2.2.2.2.1, hX.2.2.2.2.2.2.2.2.2.2.2.2.2.2.2.1, hX.2.2.2.2.2.2.2.2.2.2.2.2.2.2.2.2.1, hX.2.2.2.2.2.2.2.2.2.2.2.2.2.2.2.2.2.1, hX.2.2.2.2.2.2.2.2.2.2.2.2.2.2.2.2.2.2.1, hX.2.2.2.2.2.2.2.2.2.2.2.2.2.2.2.2.2.2.2.1, hX.2.2.2.2.2.2.2.2.2.2.2.2.2.2.2.2.2.2.2.2.1, hX.2.2.2.2.2.2.2.2.2.2.2.2.2.2.2.2.2.2.2.2.2.1, hX.2.2.2.2.2.2.2.2.2.2.2.2.2.2.2.2.2.2.2.2.2.2.1, hX.2.2.2.2.2.2.2.2.2.2.2.2.2.2.2.2.2.2.2.2.2.2.2.1, hX.2.2.2.2.2.2.2.2.2.2.2.2.2.2.2.2.2.2.2.2.2.2.2.2.1, hX.2.2.2.2.2.2.2.2.2.2.2.2.2.2.2.2.2.2.2.2.2.2.2.2.2.1, hX.2.2.2.2.2.2.2.2.2.2.2.2.2.2.2.2.2.2.2.2.2.2.2.2.2.2⟩ ⟨(IM_arr (k := 1) hM.1 hg4), hr3, hM.2.2⟩ hR hP hD hS hl

set_option maxRecDepth 100000 in
set_option maxHeartbeats 16000000 in
theorem law_58 {p : Program} {l : Launch} {e : Env} {s : State} {m : MethodId} {below : List Frame} {meth : Method} {c : Code} {b L : Nat} {xs : Nat → Int32} {G : va_G} {cs : Nat → ClassId} {h1 : Nat} {Q : Nat → Nat → Nat} {h2 : Nat} {q2 : Nat → Nat} {sd : Nat → Nat × Nat} {i : Int32} : LCase p l e s m below meth c b G cs h1 Q h2 q2 i L xs sd 58 := by
  intro C0 hL hK hQ hQM hi0 hi6 kk F A B D MF MA MD MB H locs ls hX hM hR hP hD hS hl
  obtain ⟨hx, hb, hr, hml, hown, hts, hXs, hbl, hlocks, hgv⟩ := id C0
  have hown : s.vm.findClass RL = some m.cls := hown
  have ht : ∀ w ∈ tb, w.before #[Value.ref b] s = true := fun w h => hts w (List.mem_filter.mp h).1
  have hbA : ¬ (fun q : Nat => s.heap.size ≤ q) b := Nat.not_le.mpr hbl
  have t1 : (i + 1).toInt = i.toInt + 1 := addT rfl (by decide) (by omega)
  obtain ⟨a1, ea1⟩ : ∃ z : Int32, z = xs (i + 1).toNatClampNeg := ⟨_, rfl⟩
  refine lv_tableIn (off := 1875) (tgt := 1908) hx hb dL_law_33 (by decide) (by decide) (by decide) (by decide) ?_
  refine lv_aload_n hx hb dL_law_1908 rfl (lv_at hl 2 rfl) ?_
  refine lv_aload_n hx hb dL_law_1909 rfl (lv_at hl 3 rfl) ?_
  refine lv_iload_n hx hb dL_law_1910 rfl (lv_at hl 0 rfl) ?_
  refine lv_iconst (v := 1) hx hb dL_law_1911 (by decide) ?_
  refine lv_iadd hx hb dL_law_1912 ?_
  refine va_sld hx hb hXs hbl hbA hS (inK t1 (by omega) (by omega)) dL_law_1913 ?_
  refine W.eq (g2 := F0 m 1914 ls [.int a1, .ref h1]) (by rw [← ea1]) ?_
  refine behR (runVP (As := [.int a1]) (rest := []) ⟨hx, hb, hml, hown, ht⟩ (sX10_count l G cs h1 (Q 0) (F 0) (A 0) (B 0) (D 0) hX.1 (Q 4) (F 4) (A 4) (B 4) (D 4) hX.2.2.2.2.1 (Q 5) (F 5) (A 5) (B 5) (D 5) hX.2.2.2.2.2.1 (Q 2) (F 2) (A 2) (B 2) (D 2) hX.2.2.1 (Q 12) (F 12) (A 12) (B 12) (D 12) hX.2.2.2.2.2.2.2.2.2.2.2.2.1 (Q 13) (F 13) (A 13) (B 13) (D 13) hX.2.2.2.2.2.2.2.2.2.2.2.2.2.1 (Q 14) (F 14) (A 14) (B 14) (D 14) hX.2.2.2.2.2.2.2.2.2.2.2.2.2.2.1 (Q 15) (F 15) (A 15) (B 15) (D 15) hX.2.2.2.2.2.2.2.2.2.2.2.2.2.2.2.1 a1) okV_RL_253 ⟨(Nat.le_of_ble_eq_true rfl), (Nat.le_of_ble_eq_true rfl)⟩ hK hP [0, 1, 2, 14, 15, 16, 17, 18, 19, 20, 21, 22, 23, 4, 5, 48, 49, 50, 51, 52, 53, 54, 55] rfl 0 rfl rfl hl.1 rfl (Nat.le_of_ble_eq_true rfl) dL_law_1914 ⟨(Nat.le_of_ble_eq_true rfl), (Nat.le_of_ble_eq_true rfl)⟩) hP hS (fun _ h => h) (fun r1 H locs hr1 hP hS => ?_)
  refine lv_pop hx hb dL_law_1917 rfl ?_
  refine lv_aload_n hx hb dL_law_1918 rfl (lv_at hl 1 rfl) ?_
  refine lv_aload_n hx hb dL_law_1919 rfl (lv_at hl 3 rfl) ?_
  refine lv_iload_n hx hb dL_law_1920 rfl (lv_at hl 0 rfl) ?_
  refine lv_iconst (v := 1) hx hb dL_law_1921 (by decide) ?_
  refine lv_iadd hx hb dL_law_1922 ?_
  refine va_sld hx hb hXs hbl hbA hS (inK t1 (by omega) (by omega)) dL_law_1923 ?_
  refine W.eq (g2 := F0 m 1924 ls [.int a1, .ref h2]) (by rw [← ea1]) ?_
  refine behR (runVP (As := [.int a1]) (rest := []) ⟨hx, hb, hml, hown, ht⟩ (sX11_count l G cs h2 q2 MF MA MD MB hM.1 a1) okV_RL_256 ⟨(Nat.le_of_ble_eq_true rfl), (Nat.le_of_ble_eq_true rfl)⟩ hK hP [101, 102, 103, 104, 105, 106, 107, 108, 109, 110, 111, 112, 113, 114, 115, 116, 117, 118, 119, 120] rfl 101 rfl rfl hl.1 rfl (Nat.le_of_ble_eq_true rfl) dL_law_1924 ⟨(Nat.le_of_ble_eq_true rfl), (Nat.le_of_ble_eq_true rfl)⟩) hP hS (fun _ h => h) (fun r2 H locs hr2 hP hS => ?_)
  refine lv_pop hx hb dL_law_1927 rfl ?_
  refine lv_goto (tgt := 2156) hx hb dL_law_1928 (by decide) ?_
  exact kk F A B D MF MA MD MB H locs ls ⟨hX.1, hX.2.1, hX.2.2.1, hX.2.2.2.1, hX.2.2.2.2.1, hX.2.2.2.2.2.1, hX.2.2.2.2.2.2.1, hX.2.2.2.2.2.2.2.1, hX.2.2.2.2.2.2.2.2.1, hX.2.2.2.2.2.2.2.2.2.1, hX.2.2.2.2.2.2.2.2.2.2.1, hX.2.2.2.2.2.2.2.2.2.2.2.1, hX.2.2.2.2.2.2.2.2.2.2.2.2.1, hX.2.2.2.2.2.2.2.2.2.2.2.2.2.1, hX.2.2.2.2.2.2.2.2.2.2.2.2.2.2.1, hX.2.2.2.2.2.2.2.2.2.2.2.2.2.2.2.1, hX.2.2.2.2.2.2.2.2.2.2.2.2.2.2.2.2.1, hX.2.2.2.2.2.2.2.2.2.2.2.2.2.2.2.2.2.1, hX.2.2.2.2.2.2.2.2.2.2.2.2.2.2.2.2.2.2.1, hX.2.2.2.2.2.2.2.2.2.2.2.2.2.2.2.2.2.2.2.1, hX.2.2.2.2.2.2.2.2.2.2.2.2.2.2.2.2.2.2.2.2.1, hX.2.2.2.2.2.2.2.2.2.2.2.2.2.2.2.2.2.2.2.2.2.1, hX.2.2.2.2.2.2.2.2.2.2.2.2.2.2.2.2.2.2.2.2.2.2.1, hX.2.2.2.2.2.2.2.2.2.2.2.2.2.2.2.2.2.2.2.2.2.2.2.1, hX.2.2.2.2.2.2.2.2.2.2.2.2.2.2.2.2.2.2.2.2.2.2.2.2.1, hX.2.2.2.2.2.2.2.2.2.2.2.2.2.2.2.2.2.2.2.2.2.2.2.2.2.1, hX.2.2.2.2.2.2.2.2.2.2.2.2.2.2.2.2.2.2.2.2.2.2.2.2.2.2⟩ ⟨hM.1, hM.2.1, hM.2.2⟩ hR hP hD hS hl

set_option maxRecDepth 100000 in
set_option maxHeartbeats 16000000 in
theorem law_59 {p : Program} {l : Launch} {e : Env} {s : State} {m : MethodId} {below : List Frame} {meth : Method} {c : Code} {b L : Nat} {xs : Nat → Int32} {G : va_G} {cs : Nat → ClassId} {h1 : Nat} {Q : Nat → Nat → Nat} {h2 : Nat} {q2 : Nat → Nat} {sd : Nat → Nat × Nat} {i : Int32} : LCase p l e s m below meth c b G cs h1 Q h2 q2 i L xs sd 59 := by
  intro C0 hL hK hQ hQM hi0 hi6 kk F A B D MF MA MD MB H locs ls hX hM hR hP hD hS hl
  obtain ⟨hx, hb, hr, hml, hown, hts, hXs, hbl, hlocks, hgv⟩ := id C0
  have hown : s.vm.findClass RL = some m.cls := hown
  have ht : ∀ w ∈ tb, w.before #[Value.ref b] s = true := fun w h => hts w (List.mem_filter.mp h).1
  have hbA : ¬ (fun q : Nat => s.heap.size ≤ q) b := Nat.not_le.mpr hbl
  have t1 : (i + 1).toInt = i.toInt + 1 := addT rfl (by decide) (by omega)
  obtain ⟨a1, ea1⟩ : ∃ z : Int32, z = xs (i + 1).toNatClampNeg := ⟨_, rfl⟩
  refine lv_tableIn (off := 1898) (tgt := 1931) hx hb dL_law_33 (by decide) (by decide) (by decide) (by decide) ?_
  refine lv_aload_n hx hb dL_law_1931 rfl (lv_at hl 2 rfl) ?_
  refine lv_aload_n hx hb dL_law_1932 rfl (lv_at hl 3 rfl) ?_
  refine lv_iload_n hx hb dL_law_1933 rfl (lv_at hl 0 rfl) ?_
  refine lv_iconst (v := 1) hx hb dL_law_1934 (by decide) ?_
  refine lv_iadd hx hb dL_law_1935 ?_
  refine va_sld hx hb hXs hbl hbA hS (inK t1 (by omega) (by omega)) dL_law_1936 ?_
  refine W.eq (g2 := F0 m 1937 ls [.int a1, .ref h1]) (by rw [← ea1]) ?_
  rcases csN3 a1 with hN | hN | rfl | rfl | rfl
  · have bb1 := i32b a1
    refine behR (runVP (As := [.int a1]) (rest := []) ⟨hx, hb, hml, hown, ht⟩ (sX10_image_lo l G cs h1 (Q 0) (F 0) (A 0) (B 0) (D 0) hX.1 (Q 4) (F 4) (A 4) (B 4) (D 4) hX.2.2.2.2.1 (Q 5) (F 5) (A 5) (B 5) (D 5) hX.2.2.2.2.2.1 a1 (by omega)) okV_RL_257 ⟨(Nat.le_of_ble_eq_true rfl), (Nat.le_of_ble_eq_true rfl)⟩ hK hP [0, 1, 2, 14, 15, 16, 17, 18, 19, 20, 21, 22, 23] rfl 0 rfl rfl hl.1 rfl (Nat.le_of_ble_eq_true rfl) dL_law_1937 ⟨(Nat.le_of_ble_eq_true rfl), (Nat.le_of_ble_eq_true rfl)⟩) hP hS (fun _ h => h) (fun r2 H locs hr2 hP hS => ?_)
    have hr2 : r2.toInt = -2 := hr2
    refine lv_pop hx hb dL_law_1940 rfl ?_
    refine lv_aload_n hx hb dL_law_1941 rfl (lv_at hl 1 rfl) ?_
    refine lv_aload_n hx hb dL_law_1942 rfl (lv_at hl 3 rfl) ?_
    refine lv_iload_n hx hb dL_law_1943 rfl (lv_at hl 0 rfl) ?_
    refine lv_iconst (v := 1) hx hb dL_law_1944 (by decide) ?_
    refine lv_iadd hx hb dL_law_1945 ?_
    refine va_sld hx hb hXs hbl hbA hS (inK t1 (by omega) (by omega)) dL_law_1946 ?_
    refine W.eq (g2 := F0 m 1947 ls [.int a1, .ref h2]) (by rw [← ea1]) ?_
    refine behDi (wr := (XLW cs h1 Q F A B D)) (runVD (As := [.int a1]) (rest := []) ⟨hx, hb, hml, hown, ht⟩ (sX11_image l G cs h2 q2 MF MA MD MB hM.1 a1 hM.2.1 hM.2.2) okV_RL_260 ⟨(Nat.le_of_ble_eq_true rfl), (Nat.le_of_ble_eq_true rfl)⟩ hK hP hD [101, 102, 103, 104, 105, 106, 107, 108, 109, 110, 111, 112, 113, 114, 115, 116, 117, 118, 119, 120] rfl (by decide +kernel) rfl 101 rfl rfl hl.1 rfl (Nat.le_of_ble_eq_true rfl) dL_law_1947 ⟨(Nat.le_of_ble_eq_true rfl), (Nat.le_of_ble_eq_true rfl)⟩) hP hD hS (fun _ h => h) [101, 102, 103, 104, 105, 106, 107, 108, 109, 110, 111, 112, 113, 114, 115, 116, 117, 118, 119, 120] [0, 1, 2, 3, 4, 5, 6, 7, 8, 9, 10, 11, 12, 13, 14, 15, 16, 17, 18, 19, 20, 21, 22, 23, 24, 25, 26, 27, 28, 29, 30, 31, 32, 33, 34, 35, 36, 37, 38, 39, 40, 41, 42, 43, 44, 45, 46, 47, 48, 49, 50, 51, 52, 53, 54, 55, 56, 57, 58, 59, 60, 61, 62, 63, 64, 65, 66, 67, 68, 69, 70, 71, 72, 73, 74, 75, 76, 77, 78, 79, 80, 81, 82, 83, 84, 85, 86, 87, 88, 89, 90, 91, 92, 93, 94, 95, 96, 97, 98, 99, 100] rfl rfl (by decide +kernel) (by decide +kernel) (fun r9 u H locs hu hP hD hS => ?_)
    obtain ⟨g4, g5⟩ := u
    obtain ⟨r3, rfl⟩ : ∃ z, z = r9 := ⟨_, rfl⟩
    obtain ⟨hg4, hg5, hr3⟩ := hu
    have hg4 : AI 2 g4 := hg4
    have hg5 : AI 3 g5 := hg5
    have hr3 : (∀ k : Nat, k < 3 → WG (im g4 k)) ∧ ((r3.toInt = -2 ∧ (a1.toInt < 0 ∨ 2 < a1.toInt) ∧ g5 = (MA 3)) ∨ (r3.toInt = 0 ∧ 0 ≤ a1.toInt ∧ a1.toInt ≤ 2 ∧ g5 = upd (MA 3) a1.toNatClampNeg 1)) := hr3
    have hP : va_P G vwCl (LW cs h1 Q h2 q2 F A B D MF (vA (vA MA 2 g4) 3 g5) MD MB) H := hP
    have hD : va_D (fun q : Nat => s.heap.size ≤ q) (LW cs h1 Q h2 q2 F A B D MF (vA (vA MA 2 g4) 3 g5) MD MB) := hD
    have e3 : g5 = MA 3 := by
      rcases hr3.2 with q9 | q9
      · exact q9.2.2
      · exact absurd (And.intro q9.2.1 q9.2.2.1) (by omega)
    refine lv_pop hx hb dL_law_1950 rfl ?_
    refine lv_goto (tgt := 2156) hx hb dL_law_1951 (by decide) ?_
    exact kk F A B D MF (vA (vA MA 2 g4) 3 g5) MD MB H locs ls ⟨hX.1, hX.2.1, hX.2.2.1, hX.2.2.2.1, hX.2.2.2.2.1, hX.2.2.2.2.2.1, hX.2.2.2.2.2.2.1, hX.2.2.2.2.2.2.2.1, hX.2.2.2.2.2.2.2.2.1, hX.2.2.2.2.2.2.2.2.2.1, hX.2.2.2.2.2.2.2.2.2.2.1, hX.2.2.2.2.2.2.2.2.2.2.2.1, hX.2.2.2.2.2.2.2.2.2.2.2.2.1, hX.2.2.2.2.2.2.2.2.2.2.2.2.2.1, hX.2.2.2.2.2.2.2.2.2.2.2.2.2.2.1, hX.2.2.2.2.2.2.2.2.2.2.2.2.2.2.2.1, hX.2.2.2.2.2.2.2.2.2.2.2.2.2.2.2.2.1, hX.2.2.2.2.2.2.2.2.2.2.2.2.2.2.2.2.2.1, hX.2.2.2.2.2.2.2.2.2.2.2.2.2.2.2.2.2.2.1, hX.2.2.2.2.2.2.2.2.2.2.2.2.2.2.2.2.2.2.2.1, hX.2.2.2.2.2.2.2.2.2.2.2.2.2.2.2.2.2.2.2.2.1, hX.2.2.2.2.2.2.2.2.2.2.2.2.2.2.2.2.2.2.2.2.2.1, hX.2.2.2.2.2.2.2.2.2.2.2.2.2.2.2.2.2.2.2.2.2.2.1, hX.2.2.2.2.2.2.2.2.2.2.2.2.2.2.2.2.2.2.2.2.2.2.2.1, hX.2.2.2.2.2.2.2.2.2.2.2.2.2.2.2.2.2.2.2.2.2.2.2.2.1, hX.2.2.2.2.2.2.2.2.2.2.2.2.2.2.2.2.2.2.2.2.2.2.2.2.2.1, hX.2.2.2.2.2.2.2.2.2.2.2.2.2.2.2.2.2.2.2.2.2.2.2.2.2.2⟩ ⟨(IM_arr (k := 3) (IM_arr (k := 2) hM.1 hg4) hg5), hM.2.1, hr3.1⟩ ⟨(by show ((F 16 3).toInt = 0 ∧ (g5 0).toInt = 0) ∨ (¬ (F 16 3).toInt = 0 ∧ ¬ (g5 0).toInt = 0); rw [e3]; exact hR.1), (by show ((F 18 3).toInt = 0 ∧ (g5 1).toInt = 0) ∨ (¬ (F 18 3).toInt = 0 ∧ ¬ (g5 1).toInt = 0); rw [e3]; exact hR.2.1), (by show ((F 20 3).toInt = 0 ∧ (g5 2).toInt = 0) ∨ (¬ (F 20 3).toInt = 0 ∧ ¬ (g5 2).toInt = 0); rw [e3]; exact hR.2.2.1), hR.2.2.2⟩ hP hD hS hl
  · have bb6 := i32b a1
    refine behR (runVP (As := [.int a1]) (rest := []) ⟨hx, hb, hml, hown, ht⟩ (sX10_image_hi l G cs h1 (Q 0) (F 0) (A 0) (B 0) (D 0) hX.1 (Q 4) (F 4) (A 4) (B 4) (D 4) hX.2.2.2.2.1 (Q 5) (F 5) (A 5) (B 5) (D 5) hX.2.2.2.2.2.1 a1 (by omega)) okV_RL_257 ⟨(Nat.le_of_ble_eq_true rfl), (Nat.le_of_ble_eq_true rfl)⟩ hK hP [0, 1, 2, 14, 15, 16, 17, 18, 19, 20, 21, 22, 23] rfl 0 rfl rfl hl.1 rfl (Nat.le_of_ble_eq_true rfl) dL_law_1937 ⟨(Nat.le_of_ble_eq_true rfl), (Nat.le_of_ble_eq_true rfl)⟩) hP hS (fun _ h => h) (fun r7 H locs hr7 hP hS => ?_)
    have hr7 : r7.toInt = -2 := hr7
    refine lv_pop hx hb dL_law_1940 rfl ?_
    refine lv_aload_n hx hb dL_law_1941 rfl (lv_at hl 1 rfl) ?_
    refine lv_aload_n hx hb dL_law_1942 rfl (lv_at hl 3 rfl) ?_
    refine lv_iload_n hx hb dL_law_1943 rfl (lv_at hl 0 rfl) ?_
    refine lv_iconst (v := 1) hx hb dL_law_1944 (by decide) ?_
    refine lv_iadd hx hb dL_law_1945 ?_
    refine va_sld hx hb hXs hbl hbA hS (inK t1 (by omega) (by omega)) dL_law_1946 ?_
    refine W.eq (g2 := F0 m 1947 ls [.int a1, .ref h2]) (by rw [← ea1]) ?_
    refine behDi (wr := (XLW cs h1 Q F A B D)) (runVD (As := [.int a1]) (rest := []) ⟨hx, hb, hml, hown, ht⟩ (sX11_image l G cs h2 q2 MF MA MD MB hM.1 a1 hM.2.1 hM.2.2) okV_RL_260 ⟨(Nat.le_of_ble_eq_true rfl), (Nat.le_of_ble_eq_true rfl)⟩ hK hP hD [101, 102, 103, 104, 105, 106, 107, 108, 109, 110, 111, 112, 113, 114, 115, 116, 117, 118, 119, 120] rfl (by decide +kernel) rfl 101 rfl rfl hl.1 rfl (Nat.le_of_ble_eq_true rfl) dL_law_1947 ⟨(Nat.le_of_ble_eq_true rfl), (Nat.le_of_ble_eq_true rfl)⟩) hP hD hS (fun _ h => h) [101, 102, 103, 104, 105, 106, 107, 108, 109, 110, 111, 112, 113, 114, 115, 116, 117, 118, 119, 120] [0, 1, 2, 3, 4, 5, 6, 7, 8, 9, 10, 11, 12, 13, 14, 15, 16, 17, 18, 19, 20, 21, 22, 23, 24, 25, 26, 27, 28, 29, 30, 31, 32, 33, 34, 35, 36, 37, 38, 39, 40, 41, 42, 43, 44, 45, 46, 47, 48, 49, 50, 51, 52, 53, 54, 55, 56, 57, 58, 59, 60, 61, 62, 63, 64, 65, 66, 67, 68, 69, 70, 71, 72, 73, 74, 75, 76, 77, 78, 79, 80, 81, 82, 83, 84, 85, 86, 87, 88, 89, 90, 91, 92, 93, 94, 95, 96, 97, 98, 99, 100] rfl rfl (by decide +kernel) (by decide +kernel) (fun r9 u H locs hu hP hD hS => ?_)
    obtain ⟨g9, g10⟩ := u
    obtain ⟨r8, rfl⟩ : ∃ z, z = r9 := ⟨_, rfl⟩
    obtain ⟨hg9, hg10, hr8⟩ := hu
    have hg9 : AI 2 g9 := hg9
    have hg10 : AI 3 g10 := hg10
    have hr8 : (∀ k : Nat, k < 3 → WG (im g9 k)) ∧ ((r8.toInt = -2 ∧ (a1.toInt < 0 ∨ 2 < a1.toInt) ∧ g10 = (MA 3)) ∨ (r8.toInt = 0 ∧ 0 ≤ a1.toInt ∧ a1.toInt ≤ 2 ∧ g10 = upd (MA 3) a1.toNatClampNeg 1)) := hr8
    have hP : va_P G vwCl (LW cs h1 Q h2 q2 F A B D MF (vA (vA MA 2 g9) 3 g10) MD MB) H := hP
    have hD : va_D (fun q : Nat => s.heap.size ≤ q) (LW cs h1 Q h2 q2 F A B D MF (vA (vA MA 2 g9) 3 g10) MD MB) := hD
    have e3 : g10 = MA 3 := by
      rcases hr8.2 with q9 | q9
      · exact q9.2.2
      · exact absurd (And.intro q9.2.1 q9.2.2.1) (by omega)
    refine lv_pop hx hb dL_law_1950 rfl ?_
    refine lv_goto (tgt := 2156) hx hb dL_law_1951 (by decide) ?_
    exact kk F A B D MF (vA (vA MA 2 g9) 3 g10) MD MB H locs ls ⟨hX.1, hX.2.1, hX.2.2.1, hX.2.2.2.1, hX.2.2.2.2.1, hX.2.2.2.2.2.1, hX.2.2.2.2.2.2.1, hX.2.2.2.2.2.2.2.1, hX.2.2.2.2.2.2.2.2.1, hX.2.2.2.2.2.2.2.2.2.1, hX.2.2.2.2.2.2.2.2.2.2.1, hX.2.2.2.2.2.2.2.2.2.2.2.1, hX.2.2.2.2.2.2.2.2.2.2.2.2.1, hX.2.2.2.2.2.2.2.2.2.2.2.2.2.1, hX.2.2.2.2.2.2.2.2.2.2.2.2.2.2.1, hX.2.2.2.2.2.2.2.2.2.2.2.2.2.2.2.1, hX.2.2.2.2.2.2.2.2.2.2.2.2.2.2.2.2.1, hX.2.2.2.2.2.2.2.2.2.2.2.2.2.2.2.2.2.1, hX.2.2.2.2.2.2.2.2.2.2.2.2.2.2.2.2.2.2.1, hX.2.2.2.2.2.2.2.2.2.2.2.2.2.2.2.2.2.2.2.1, hX.2.2.2.2.2.2.2.2.2.2.2.2.2.2.2.2.2.2.2.2.1, hX.2.2.2.2.2.2.2.2.2.2.2.2.2.2.2.2.2.2.2.2.2.1, hX.2.2.2.2.2.2.2.2.2.2.2.2.2.2.2.2.2.2.2.2.2.2.1, hX.2.2.2.2.2.2.2.2.2.2.2.2.2.2.2.2.2.2.2.2.2.2.2.1, hX.2.2.2.2.2.2.2.2.2.2.2.2.2.2.2.2.2.2.2.2.2.2.2.2.1, hX.2.2.2.2.2.2.2.2.2.2.2.2.2.2.2.2.2.2.2.2.2.2.2.2.2.1, hX.2.2.2.2.2.2.2.2.2.2.2.2.2.2.2.2.2.2.2.2.2.2.2.2.2.2⟩ ⟨(IM_arr (k := 3) (IM_arr (k := 2) hM.1 hg9) hg10), hM.2.1, hr8.1⟩ ⟨(by show ((F 16 3).toInt = 0 ∧ (g10 0).toInt = 0) ∨ (¬ (F 16 3).toInt = 0 ∧ ¬ (g10 0).toInt = 0); rw [e3]; exact hR.1), (by show ((F 18 3).toInt = 0 ∧ (g10 1).toInt = 0) ∨ (¬ (F 18 3).toInt = 0 ∧ ¬ (g10 1).toInt = 0); rw [e3]; exact hR.2.1), (by show ((F 20 3).toInt = 0 ∧ (g10 2).toInt = 0) ∨ (¬ (F 20 3).toInt = 0 ∧ ¬ (g10 2).toInt = 0); rw [e3]; exact hR.2.2.1), hR.2.2.2⟩ hP hD hS hl
  · refine behDi (wr := ((uX6 cs (Q 0 0) (fun _ => Q 0 1) (F 1) (A 1) (B 1) (D 1)) ++ ((uX9 cs (Q 0 1) (Q 2) (F 2) (A 2) (B 2) (D 2)) ++ ((uX3 cs (Q 0 2) (Q 3) (F 3) (A 3) (B 3) (D 3)) ++ ((uX5 cs (Q 0 6) (Q 6) (F 6) (A 6) (B 6) (D 6)) ++ ((uX5 cs (Q 0 7) (Q 7) (F 7) (A 7) (B 7) (D 7)) ++ ((uX0 cs (Q 0 8) (Q 8) (F 8) (A 8) (B 8) (D 8)) ++ ((uX1 cs (Q 0 9) (Q 9) (F 9) (A 9) (B 9) (D 9)) ++ ((uX4 cs (Q 0 10) (Q 10) (F 10) (A 10) (B 10) (D 10)) ++ ((uX2 cs (Q 0 11) (Q 11) (F 11) (A 11) (B 11) (D 11)) ++ ((uX7 cs (Q 0 20) (Q 12) (F 12) (A 12) (B 12) (D 12)) ++ ((uX7 cs (Q 0 21) (Q 13) (F 13) (A 13) (B 13) (D 13)) ++ ((uX7 cs (Q 0 22) (Q 14) (F 14) (A 14) (B 14) (D 14)) ++ ((uX7 cs (Q 0 23) (Q 15) (F 15) (A 15) (B 15) (D 15)) ++ ((uX8 cs (Q 0 31) (Q 18) (F 18) (A 18) (B 18) (D 18)) ++ ((uX3 cs (Q 18 0) (Q 19) (F 19) (A 19) (B 19) (D 19)) ++ ((uX8 cs (Q 0 32) (Q 20) (F 20) (A 20) (B 20) (D 20)) ++ ((uX3 cs (Q 20 0) (Q 21) (F 21) (A 21) (B 21) (D 21)) ++ ((uX5 cs (Q 8 10) (Q 22) (F 22) (A 22) (B 22) (D 22)) ++ ((uX5 cs (Q 8 11) (Q 23) (F 23) (A 23) (B 23) (D 23)) ++ ((uX5 cs (Q 8 12) (Q 24) (F 24) (A 24) (B 24) (D 24)) ++ ((uX5 cs (Q 8 13) (Q 25) (F 25) (A 25) (B 25) (D 25)) ++ ((uX5 cs (Q 8 14) (Q 26) (F 26) (A 26) (B 26) (D 26)) ++ (mS cs h2 q2 MF MA MD MB)))))))))))))))))))))))) (runVD (As := [.int 0]) (rest := []) ⟨hx, hb, hml, hown, ht⟩ (sX10_image_0 l G cs h1 (Q 0) (F 0) (A 0) (B 0) (D 0) hX.1 (Q 4) (F 4) (A 4) (B 4) (D 4) hX.2.2.2.2.1 (Q 5) (F 5) (A 5) (B 5) (D 5) hX.2.2.2.2.2.1 (Q 16) (F 16) (A 16) (B 16) (D 16) hX.2.2.2.2.2.2.2.2.2.2.2.2.2.2.2.2.1 (Q 17) (F 17) (A 17) (B 17) (D 17) hX.2.2.2.2.2.2.2.2.2.2.2.2.2.2.2.2.2.1) okV_RL_257 ⟨(Nat.le_of_ble_eq_true rfl), (Nat.le_of_ble_eq_true rfl)⟩ hK hP hD [0, 1, 2, 14, 15, 16, 17, 18, 19, 20, 21, 22, 23, 56, 57, 58, 59, 60, 61, 62, 63, 64, 65] rfl (by decide +kernel) rfl 0 rfl rfl hl.1 rfl (Nat.le_of_ble_eq_true rfl) dL_law_1937 ⟨(Nat.le_of_ble_eq_true rfl), (Nat.le_of_ble_eq_true rfl)⟩) hP hD hS (fun _ h => h) [0, 1, 2, 14, 15, 16, 17, 18, 19, 20, 21, 22, 23, 56, 57, 58, 59, 60, 61, 62, 63, 64, 65] [3, 4, 5, 6, 7, 8, 9, 10, 11, 12, 13, 24, 25, 26, 27, 28, 29, 30, 31, 32, 33, 34, 35, 36, 37, 38, 39, 40, 41, 42, 43, 44, 45, 46, 47, 48, 49, 50, 51, 52, 53, 54, 55, 66, 67, 68, 69, 70, 71, 72, 73, 74, 75, 76, 77, 78, 79, 80, 81, 82, 83, 84, 85, 86, 87, 88, 89, 90, 91, 92, 93, 94, 95, 96, 97, 98, 99, 100, 101, 102, 103, 104, 105, 106, 107, 108, 109, 110, 111, 112, 113, 114, 115, 116, 117, 118, 119, 120] rfl rfl (by decide +kernel) (by decide +kernel) (fun r9 u H locs hu hP hD hS => ?_)
    obtain ⟨x12, x13, x14, x15, x16, x17, x18, x19, x20, g21, g22, g23, g24, g25, g26, g27, g28⟩ := u
    obtain ⟨r11, rfl⟩ : ∃ z, z = r9 := ⟨_, rfl⟩
    obtain ⟨hbx12, hbx13, hbx19, hbx20, hg25, hg27, hr11⟩ := hu
    have hbx12 : (0 : Int) ≤ x12.toInt ∧ x12.toInt ≤ 60 := hbx12
    have hbx13 : (0 : Int) ≤ x13.toInt ∧ x13.toInt ≤ 1 := hbx13
    have hbx19 : (0 : Int) ≤ x19.toInt ∧ x19.toInt ≤ 7 := hbx19
    have hbx20 : (0 : Int) ≤ x20.toInt ∧ x20.toInt ≤ 6 := hbx20
    have hg25 : AJ (0) 127 g25 := hg25
    have hg27 : AJ (0) 63 g27 := hg27
    have kk29 : (0 : Int32).toInt = 0 := by decide
    have hr11 : r11.toInt = 0 ∧ x13.toInt = 1 := hr11
    have hP : va_P G vwCl (LW cs h1 Q h2 q2 (vA (vA F 16 (upd (upd (F 16) 2 x12) 3 x13)) 17 (upd (upd (upd (upd (upd (upd (upd (F 17) 0 x14) 1 x15) 2 x16) 3 x17) 4 x18) 5 x19) 6 x20)) (vA (vA A 16 (vA (A 16) 1 g21)) 17 (vA (vA (vA (vA (vA (vA (vA (A 17) 7 g22) 8 g23) 9 g24) 10 g25) 11 g26) 12 g27) 13 g28)) B D MF MA MD MB) H := hP.sub [98, 99, 100, 0, 1, 2, 3, 4, 5, 6, 7, 8, 9, 10, 101, 102, 103, 104, 105, 106, 107, 108, 109, 110, 11, 12, 13, 14, 15, 16, 17, 18, 19, 20, 21, 22, 23, 24, 25, 26, 27, 28, 29, 30, 31, 32, 33, 34, 35, 36, 37, 38, 39, 40, 41, 42, 111, 112, 113, 114, 115, 116, 117, 118, 119, 120, 43, 44, 45, 46, 47, 48, 49, 50, 51, 52, 53, 54, 55, 56, 57, 58, 59, 60, 61, 62, 63, 64, 65, 66, 67, 68, 69, 70, 71, 72, 73, 74, 75, 76, 77, 78, 79, 80, 81, 82, 83, 84, 85, 86, 87, 88, 89, 90, 91, 92, 93, 94, 95, 96, 97] rfl
    have hD : va_D (fun q : Nat => s.heap.size ≤ q) (LW cs h1 Q h2 q2 (vA (vA F 16 (upd (upd (F 16) 2 x12) 3 x13)) 17 (upd (upd (upd (upd (upd (upd (upd (F 17) 0 x14) 1 x15) 2 x16) 3 x17) 4 x18) 5 x19) 6 x20)) (vA (vA A 16 (vA (A 16) 1 g21)) 17 (vA (vA (vA (vA (vA (vA (vA (A 17) 7 g22) 8 g23) 9 g24) 10 g25) 11 g26) 12 g27) 13 g28)) B D MF MA MD MB) := hD.sub [98, 99, 100, 0, 1, 2, 3, 4, 5, 6, 7, 8, 9, 10, 101, 102, 103, 104, 105, 106, 107, 108, 109, 110, 11, 12, 13, 14, 15, 16, 17, 18, 19, 20, 21, 22, 23, 24, 25, 26, 27, 28, 29, 30, 31, 32, 33, 34, 35, 36, 37, 38, 39, 40, 41, 42, 111, 112, 113, 114, 115, 116, 117, 118, 119, 120, 43, 44, 45, 46, 47, 48, 49, 50, 51, 52, 53, 54, 55, 56, 57, 58, 59, 60, 61, 62, 63, 64, 65, 66, 67, 68, 69, 70, 71, 72, 73, 74, 75, 76, 77, 78, 79, 80, 81, 82, 83, 84, 85, 86, 87, 88, 89, 90, 91, 92, 93, 94, 95, 96, 97] (by decide +kernel) rfl
    refine lv_pop hx hb dL_law_1940 rfl ?_
    refine lv_aload_n hx hb dL_law_1941 rfl (lv_at hl 1 rfl) ?_
    refine lv_aload_n hx hb dL_law_1942 rfl (lv_at hl 3 rfl) ?_
    refine lv_iload_n hx hb dL_law_1943 rfl (lv_at hl 0 rfl) ?_
    refine lv_iconst (v := 1) hx hb dL_law_1944 (by decide) ?_
    refine lv_iadd hx hb dL_law_1945 ?_
    refine va_sld hx hb hXs hbl hbA hS (inK t1 (by omega) (by omega)) dL_law_1946 ?_
    refine W.eq (g2 := F0 m 1947 ls [.int 0, .ref h2]) (by rw [← ea1]) ?_
    refine behDi (wr := (XLW cs h1 Q (vA (vA F 16 (upd (upd (F 16) 2 x12) 3 x13)) 17 (upd (upd (upd (upd (upd (upd (upd (F 17) 0 x14) 1 x15) 2 x16) 3 x17) 4 x18) 5 x19) 6 x20)) (vA (vA A 16 (vA (A 16) 1 g21)) 17 (vA (vA (vA (vA (vA (vA (vA (A 17) 7 g22) 8 g23) 9 g24) 10 g25) 11 g26) 12 g27) 13 g28)) B D)) (runVD (As := [.int 0]) (rest := []) ⟨hx, hb, hml, hown, ht⟩ (sX11_image l G cs h2 q2 MF MA MD MB hM.1 0 hM.2.1 hM.2.2) okV_RL_260 ⟨(Nat.le_of_ble_eq_true rfl), (Nat.le_of_ble_eq_true rfl)⟩ hK hP hD [101, 102, 103, 104, 105, 106, 107, 108, 109, 110, 111, 112, 113, 114, 115, 116, 117, 118, 119, 120] rfl (by decide +kernel) rfl 101 rfl rfl hl.1 rfl (Nat.le_of_ble_eq_true rfl) dL_law_1947 ⟨(Nat.le_of_ble_eq_true rfl), (Nat.le_of_ble_eq_true rfl)⟩) hP hD hS (fun _ h => h) [101, 102, 103, 104, 105, 106, 107, 108, 109, 110, 111, 112, 113, 114, 115, 116, 117, 118, 119, 120] [0, 1, 2, 3, 4, 5, 6, 7, 8, 9, 10, 11, 12, 13, 14, 15, 16, 17, 18, 19, 20, 21, 22, 23, 24, 25, 26, 27, 28, 29, 30, 31, 32, 33, 34, 35, 36, 37, 38, 39, 40, 41, 42, 43, 44, 45, 46, 47, 48, 49, 50, 51, 52, 53, 54, 55, 56, 57, 58, 59, 60, 61, 62, 63, 64, 65, 66, 67, 68, 69, 70, 71, 72, 73, 74, 75, 76, 77, 78, 79, 80, 81, 82, 83, 84, 85, 86, 87, 88, 89, 90, 91, 92, 93, 94, 95, 96, 97, 98, 99, 100] rfl rfl (by decide +kernel) (by decide +kernel) (fun r9 u H locs hu hP hD hS => ?_)
    obtain ⟨g31, g32⟩ := u
    obtain ⟨r30, rfl⟩ : ∃ z, z = r9 := ⟨_, rfl⟩
    obtain ⟨hg31, hg32, hr30⟩ := hu
    have hg31 : AI 2 g31 := hg31
    have hg32 : AI 3 g32 := hg32
    have kk33 : (0 : Int32).toInt = 0 := by decide
    have hr30 : (∀ k : Nat, k < 3 → WG (im g31 k)) ∧ ((r30.toInt = -2 ∧ ((0 : Int32).toInt < 0 ∨ 2 < (0 : Int32).toInt) ∧ g32 = (MA 3)) ∨ (r30.toInt = 0 ∧ 0 ≤ (0 : Int32).toInt ∧ (0 : Int32).toInt ≤ 2 ∧ g32 = upd (MA 3) (0 : Int32).toNatClampNeg 1)) := hr30
    have hP : va_P G vwCl (LW cs h1 Q h2 q2 (vA (vA F 16 (upd (upd (F 16) 2 x12) 3 x13)) 17 (upd (upd (upd (upd (upd (upd (upd (F 17) 0 x14) 1 x15) 2 x16) 3 x17) 4 x18) 5 x19) 6 x20)) (vA (vA A 16 (vA (A 16) 1 g21)) 17 (vA (vA (vA (vA (vA (vA (vA (A 17) 7 g22) 8 g23) 9 g24) 10 g25) 11 g26) 12 g27) 13 g28)) B D MF (vA (vA MA 2 g31) 3 g32) MD MB) H := hP
    have hD : va_D (fun q : Nat => s.heap.size ≤ q) (LW cs h1 Q h2 q2 (vA (vA F 16 (upd (upd (F 16) 2 x12) 3 x13)) 17 (upd (upd (upd (upd (upd (upd (upd (F 17) 0 x14) 1 x15) 2 x16) 3 x17) 4 x18) 5 x19) 6 x20)) (vA (vA A 16 (vA (A 16) 1 g21)) 17 (vA (vA (vA (vA (vA (vA (vA (A 17) 7 g22) 8 g23) 9 g24) 10 g25) 11 g26) 12 g27) 13 g28)) B D MF (vA (vA MA 2 g31) 3 g32) MD MB) := hD
    have e3 : g32 = upd (MA 3) 0 1 := by
      rcases hr30.2 with q9 | q9
      · exact absurd q9.2.1 (by decide)
      · exact q9.2.2.2.trans (congrArg (fun z => upd (MA 3) z 1) (show (0 : Int32).toNatClampNeg = 0 by decide))
    refine lv_pop hx hb dL_law_1950 rfl ?_
    refine lv_goto (tgt := 2156) hx hb dL_law_1951 (by decide) ?_
    exact kk (vA (vA F 16 (upd (upd (F 16) 2 x12) 3 x13)) 17 (upd (upd (upd (upd (upd (upd (upd (F 17) 0 x14) 1 x15) 2 x16) 3 x17) 4 x18) 5 x19) 6 x20)) (vA (vA A 16 (vA (A 16) 1 g21)) 17 (vA (vA (vA (vA (vA (vA (vA (A 17) 7 g22) 8 g23) 9 g24) 10 g25) 11 g26) 12 g27) 13 g28)) B D MF (vA (vA MA 2 g31) 3 g32) MD MB H locs ls ⟨hX.1, hX.2.1, hX.2.2.1, hX.2.2.2.1, hX.2.2.2.2.1, hX.2.2.2.2.2.1, hX.2.2.2.2.2.2.1, hX.2.2.2.2.2.2.2.1, hX.2.2.2.2.2.2.2.2.1, hX.2.2.2.2.2.2.2.2.2.1, hX.2.2.2.2.2.2.2.2.2.2.1, hX.2.2.2.2.2.2.2.2.2.2.2.1, hX.2.2.2.2.2.2.2.2.2.2.2.2.1, hX.2.2.2.2.2.2.2.2.2.2.2.2.2.1, hX.2.2.2.2.2.2.2.2.2.2.2.2.2.2.1, hX.2.2.2.2.2.2.2.2.2.2.2.2.2.2.2.1, (IB_arr (k := 1) (IB_put (k := 3) (IB_put (k := 2) hX.2.2.2.2.2.2.2.2.2.2.2.2.2.2.2.2.1 (hbx12)) (hbx13)) (AJ_full _)), (IB_arr (k := 13) (IB_arr (k := 12) (IB_arr (k := 11) (IB_arr (k := 10) (IB_arr (k := 9) (IB_arr (k := 8) (IB_arr (k := 7) (IB_put (k := 6) (IB_put (k := 5) (IB_put (k := 4) (IB_put (k := 3) (IB_put (k := 2) (IB_put (k := 1) (IB_put (k := 0) hX.2.2.2.2.2.2.2.2.2.2.2.2.2.2.2.2.2.1 (i32b _)) (i32b _)) (i32b _)) (i32b _)) (i32b _)) (hbx19)) (hbx20)) (AJ_full _)) (AJ_full _)) (AJ_full _)) hg25) (AJ_full _)) hg27) (AJ_full _)), hX.2.2.2.2.2.2.2.2.2.2.2.2.2.2.2.2.2.2.1, hX.2.2.2.2.2.2.2.2.2.2.2.2.2.2.2.2.2.2.2.1, hX.2.2.2.2.2.2.2.2.2.2.2.2.2.2.2.2.2.2.2.2.1, hX.2.2.2.2.2.2.2.2.2.2.2.2.2.2.2.2.2.2.2.2.2.1, hX.2.2.2.2.2.2.2.2.2.2.2.2.2.2.2.2.2.2.2.2.2.2.1, hX.2.2.2.2.2.2.2.2.2.2.2.2.2.2.2.2.2.2.2.2.2.2.2.1, hX.2.2.2.2.2.2.2.2.2.2.2.2.2.2.2.2.2.2.2.2.2.2.2.2.1, hX.2.2.2.2.2.2.2.2.2.2.2.2.2.2.2.2.2.2.2.2.2.2.2.2.2.1, hX.2.2.2.2.2.2.2.2.2.2.2.2.2.2.2.2.2.2.2.2.2.2.2.2.2.2⟩ ⟨(IM_arr (k := 3) (IM_arr (k := 2) hM.1 hg31) hg32), hM.2.1, hr30.1⟩ ⟨(by show (x13.toInt = 0 ∧ (g32 0).toInt = 0) ∨ (¬ x13.toInt = 0 ∧ ¬ (g32 0).toInt = 0); rw [e3]; exact Or.inr ⟨by omega, (show ¬ (1 : Int32).toInt = 0 by decide)⟩), (by show ((F 18 3).toInt = 0 ∧ (g32 1).toInt = 0) ∨ (¬ (F 18 3).toInt = 0 ∧ ¬ (g32 1).toInt = 0); rw [e3]; exact hR.2.1), (by show ((F 20 3).toInt = 0 ∧ (g32 2).toInt = 0) ∨ (¬ (F 20 3).toInt = 0 ∧ ¬ (g32 2).toInt = 0); rw [e3]; exact hR.2.2.1), hR.2.2.2⟩ hP hD hS hl
  · refine behDi (wr := ((uX6 cs (Q 0 0) (fun _ => Q 0 1) (F 1) (A 1) (B 1) (D 1)) ++ ((uX9 cs (Q 0 1) (Q 2) (F 2) (A 2) (B 2) (D 2)) ++ ((uX3 cs (Q 0 2) (Q 3) (F 3) (A 3) (B 3) (D 3)) ++ ((uX5 cs (Q 0 6) (Q 6) (F 6) (A 6) (B 6) (D 6)) ++ ((uX5 cs (Q 0 7) (Q 7) (F 7) (A 7) (B 7) (D 7)) ++ ((uX0 cs (Q 0 8) (Q 8) (F 8) (A 8) (B 8) (D 8)) ++ ((uX1 cs (Q 0 9) (Q 9) (F 9) (A 9) (B 9) (D 9)) ++ ((uX4 cs (Q 0 10) (Q 10) (F 10) (A 10) (B 10) (D 10)) ++ ((uX2 cs (Q 0 11) (Q 11) (F 11) (A 11) (B 11) (D 11)) ++ ((uX7 cs (Q 0 20) (Q 12) (F 12) (A 12) (B 12) (D 12)) ++ ((uX7 cs (Q 0 21) (Q 13) (F 13) (A 13) (B 13) (D 13)) ++ ((uX7 cs (Q 0 22) (Q 14) (F 14) (A 14) (B 14) (D 14)) ++ ((uX7 cs (Q 0 23) (Q 15) (F 15) (A 15) (B 15) (D 15)) ++ ((uX8 cs (Q 0 30) (Q 16) (F 16) (A 16) (B 16) (D 16)) ++ ((uX3 cs (Q 16 0) (Q 17) (F 17) (A 17) (B 17) (D 17)) ++ ((uX8 cs (Q 0 32) (Q 20) (F 20) (A 20) (B 20) (D 20)) ++ ((uX3 cs (Q 20 0) (Q 21) (F 21) (A 21) (B 21) (D 21)) ++ ((uX5 cs (Q 8 10) (Q 22) (F 22) (A 22) (B 22) (D 22)) ++ ((uX5 cs (Q 8 11) (Q 23) (F 23) (A 23) (B 23) (D 23)) ++ ((uX5 cs (Q 8 12) (Q 24) (F 24) (A 24) (B 24) (D 24)) ++ ((uX5 cs (Q 8 13) (Q 25) (F 25) (A 25) (B 25) (D 25)) ++ ((uX5 cs (Q 8 14) (Q 26) (F 26) (A 26) (B 26) (D 26)) ++ (mS cs h2 q2 MF MA MD MB)))))))))))))))))))))))) (runVD (As := [.int 1]) (rest := []) ⟨hx, hb, hml, hown, ht⟩ (sX10_image_1 l G cs h1 (Q 0) (F 0) (A 0) (B 0) (D 0) hX.1 (Q 4) (F 4) (A 4) (B 4) (D 4) hX.2.2.2.2.1 (Q 5) (F 5) (A 5) (B 5) (D 5) hX.2.2.2.2.2.1 (Q 18) (F 18) (A 18) (B 18) (D 18) hX.2.2.2.2.2.2.2.2.2.2.2.2.2.2.2.2.2.2.1 (Q 19) (F 19) (A 19) (B 19) (D 19) hX.2.2.2.2.2.2.2.2.2.2.2.2.2.2.2.2.2.2.2.1) okV_RL_257 ⟨(Nat.le_of_ble_eq_true rfl), (Nat.le_of_ble_eq_true rfl)⟩ hK hP hD [0, 1, 2, 14, 15, 16, 17, 18, 19, 20, 21, 22, 23, 66, 67, 68, 69, 70, 71, 72, 73, 74, 75] rfl (by decide +kernel) rfl 0 rfl rfl hl.1 rfl (Nat.le_of_ble_eq_true rfl) dL_law_1937 ⟨(Nat.le_of_ble_eq_true rfl), (Nat.le_of_ble_eq_true rfl)⟩) hP hD hS (fun _ h => h) [0, 1, 2, 14, 15, 16, 17, 18, 19, 20, 21, 22, 23, 66, 67, 68, 69, 70, 71, 72, 73, 74, 75] [3, 4, 5, 6, 7, 8, 9, 10, 11, 12, 13, 24, 25, 26, 27, 28, 29, 30, 31, 32, 33, 34, 35, 36, 37, 38, 39, 40, 41, 42, 43, 44, 45, 46, 47, 48, 49, 50, 51, 52, 53, 54, 55, 56, 57, 58, 59, 60, 61, 62, 63, 64, 65, 76, 77, 78, 79, 80, 81, 82, 83, 84, 85, 86, 87, 88, 89, 90, 91, 92, 93, 94, 95, 96, 97, 98, 99, 100, 101, 102, 103, 104, 105, 106, 107, 108, 109, 110, 111, 112, 113, 114, 115, 116, 117, 118, 119, 120] rfl rfl (by decide +kernel) (by decide +kernel) (fun r9 u H locs hu hP hD hS => ?_)
    obtain ⟨x35, x36, x37, x38, x39, x40, x41, x42, x43, g44, g45, g46, g47, g48, g49, g50, g51⟩ := u
    obtain ⟨r34, rfl⟩ : ∃ z, z = r9 := ⟨_, rfl⟩
    obtain ⟨hbx35, hbx36, hbx42, hbx43, hg48, hg50, hr34⟩ := hu
    have hbx35 : (0 : Int) ≤ x35.toInt ∧ x35.toInt ≤ 60 := hbx35
    have hbx36 : (0 : Int) ≤ x36.toInt ∧ x36.toInt ≤ 1 := hbx36
    have hbx42 : (0 : Int) ≤ x42.toInt ∧ x42.toInt ≤ 7 := hbx42
    have hbx43 : (0 : Int) ≤ x43.toInt ∧ x43.toInt ≤ 6 := hbx43
    have hg48 : AJ (0) 127 g48 := hg48
    have hg50 : AJ (0) 63 g50 := hg50
    have kk52 : (1 : Int32).toInt = 1 := by decide
    have hr34 : r34.toInt = 0 ∧ x36.toInt = 1 := hr34
    have hP : va_P G vwCl (LW cs h1 Q h2 q2 (vA (vA F 18 (upd (upd (F 18) 2 x35) 3 x36)) 19 (upd (upd (upd (upd (upd (upd (upd (F 19) 0 x37) 1 x38) 2 x39) 3 x40) 4 x41) 5 x42) 6 x43)) (vA (vA A 18 (vA (A 18) 1 g44)) 19 (vA (vA (vA (vA (vA (vA (vA (A 19) 7 g45) 8 g46) 9 g47) 10 g48) 11 g49) 12 g50) 13 g51)) B D MF MA MD MB) H := hP.sub [98, 99, 100, 0, 1, 2, 3, 4, 5, 6, 7, 8, 9, 10, 101, 102, 103, 104, 105, 106, 107, 108, 109, 110, 11, 12, 13, 14, 15, 16, 17, 18, 19, 20, 21, 22, 23, 24, 25, 26, 27, 28, 29, 30, 31, 32, 33, 34, 35, 36, 37, 38, 39, 40, 41, 42, 43, 44, 45, 46, 47, 48, 49, 50, 51, 52, 111, 112, 113, 114, 115, 116, 117, 118, 119, 120, 53, 54, 55, 56, 57, 58, 59, 60, 61, 62, 63, 64, 65, 66, 67, 68, 69, 70, 71, 72, 73, 74, 75, 76, 77, 78, 79, 80, 81, 82, 83, 84, 85, 86, 87, 88, 89, 90, 91, 92, 93, 94, 95, 96, 97] rfl
    have hD : va_D (fun q : Nat => s.heap.size ≤ q) (LW cs h1 Q h2 q2 (vA (vA F 18 (upd (upd (F 18) 2 x35) 3 x36)) 19 (upd (upd (upd (upd (upd (upd (upd (F 19) 0 x37) 1 x38) 2 x39) 3 x40) 4 x41) 5 x42) 6 x43)) (vA (vA A 18 (vA (A 18) 1 g44)) 19 (vA (vA (vA (vA (vA (vA (vA (A 19) 7 g45) 8 g46) 9 g47) 10 g48) 11 g49) 12 g50) 13 g51)) B D MF MA MD MB) := hD.sub [98, 99, 100, 0, 1, 2, 3, 4, 5, 6, 7, 8, 9, 10, 101, 102, 103, 104, 105, 106, 107, 108, 109, 110, 11, 12, 13, 14, 15, 16, 17, 18, 19, 20, 21, 22, 23, 24, 25, 26, 27, 28, 29, 30, 31, 32, 33, 34, 35, 36, 37, 38, 39, 40, 41, 42, 43, 44, 45, 46, 47, 48, 49, 50, 51, 52, 111, 112, 113, 114, 115, 116, 117, 118, 119, 120, 53, 54, 55, 56, 57, 58, 59, 60, 61, 62, 63, 64, 65, 66, 67, 68, 69, 70, 71, 72, 73, 74, 75, 76, 77, 78, 79, 80, 81, 82, 83, 84, 85, 86, 87, 88, 89, 90, 91, 92, 93, 94, 95, 96, 97] (by decide +kernel) rfl
    refine lv_pop hx hb dL_law_1940 rfl ?_
    refine lv_aload_n hx hb dL_law_1941 rfl (lv_at hl 1 rfl) ?_
    refine lv_aload_n hx hb dL_law_1942 rfl (lv_at hl 3 rfl) ?_
    refine lv_iload_n hx hb dL_law_1943 rfl (lv_at hl 0 rfl) ?_
    refine lv_iconst (v := 1) hx hb dL_law_1944 (by decide) ?_
    refine lv_iadd hx hb dL_law_1945 ?_
    refine va_sld hx hb hXs hbl hbA hS (inK t1 (by omega) (by omega)) dL_law_1946 ?_
    refine W.eq (g2 := F0 m 1947 ls [.int 1, .ref h2]) (by rw [← ea1]) ?_
    refine behDi (wr := (XLW cs h1 Q (vA (vA F 18 (upd (upd (F 18) 2 x35) 3 x36)) 19 (upd (upd (upd (upd (upd (upd (upd (F 19) 0 x37) 1 x38) 2 x39) 3 x40) 4 x41) 5 x42) 6 x43)) (vA (vA A 18 (vA (A 18) 1 g44)) 19 (vA (vA (vA (vA (vA (vA (vA (A 19) 7 g45) 8 g46) 9 g47) 10 g48) 11 g49) 12 g50) 13 g51)) B D)) (runVD (As := [.int 1]) (rest := []) ⟨hx, hb, hml, hown, ht⟩ (sX11_image l G cs h2 q2 MF MA MD MB hM.1 1 hM.2.1 hM.2.2) okV_RL_260 ⟨(Nat.le_of_ble_eq_true rfl), (Nat.le_of_ble_eq_true rfl)⟩ hK hP hD [101, 102, 103, 104, 105, 106, 107, 108, 109, 110, 111, 112, 113, 114, 115, 116, 117, 118, 119, 120] rfl (by decide +kernel) rfl 101 rfl rfl hl.1 rfl (Nat.le_of_ble_eq_true rfl) dL_law_1947 ⟨(Nat.le_of_ble_eq_true rfl), (Nat.le_of_ble_eq_true rfl)⟩) hP hD hS (fun _ h => h) [101, 102, 103, 104, 105, 106, 107, 108, 109, 110, 111, 112, 113, 114, 115, 116, 117, 118, 119, 120] [0, 1, 2, 3, 4, 5, 6, 7, 8, 9, 10, 11, 12, 13, 14, 15, 16, 17, 18, 19, 20, 21, 22, 23, 24, 25, 26, 27, 28, 29, 30, 31, 32, 33, 34, 35, 36, 37, 38, 39, 40, 41, 42, 43, 44, 45, 46, 47, 48, 49, 50, 51, 52, 53, 54, 55, 56, 57, 58, 59, 60, 61, 62, 63, 64, 65, 66, 67, 68, 69, 70, 71, 72, 73, 74, 75, 76, 77, 78, 79, 80, 81, 82, 83, 84, 85, 86, 87, 88, 89, 90, 91, 92, 93, 94, 95, 96, 97, 98, 99, 100] rfl rfl (by decide +kernel) (by decide +kernel) (fun r9 u H locs hu hP hD hS => ?_)
    obtain ⟨g54, g55⟩ := u
    obtain ⟨r53, rfl⟩ : ∃ z, z = r9 := ⟨_, rfl⟩
    obtain ⟨hg54, hg55, hr53⟩ := hu
    have hg54 : AI 2 g54 := hg54
    have hg55 : AI 3 g55 := hg55
    have kk56 : (1 : Int32).toInt = 1 := by decide
    have hr53 : (∀ k : Nat, k < 3 → WG (im g54 k)) ∧ ((r53.toInt = -2 ∧ ((1 : Int32).toInt < 0 ∨ 2 < (1 : Int32).toInt) ∧ g55 = (MA 3)) ∨ (r53.toInt = 0 ∧ 0 ≤ (1 : Int32).toInt ∧ (1 : Int32).toInt ≤ 2 ∧ g55 = upd (MA 3) (1 : Int32).toNatClampNeg 1)) := hr53
    have hP : va_P G vwCl (LW cs h1 Q h2 q2 (vA (vA F 18 (upd (upd (F 18) 2 x35) 3 x36)) 19 (upd (upd (upd (upd (upd (upd (upd (F 19) 0 x37) 1 x38) 2 x39) 3 x40) 4 x41) 5 x42) 6 x43)) (vA (vA A 18 (vA (A 18) 1 g44)) 19 (vA (vA (vA (vA (vA (vA (vA (A 19) 7 g45) 8 g46) 9 g47) 10 g48) 11 g49) 12 g50) 13 g51)) B D MF (vA (vA MA 2 g54) 3 g55) MD MB) H := hP
    have hD : va_D (fun q : Nat => s.heap.size ≤ q) (LW cs h1 Q h2 q2 (vA (vA F 18 (upd (upd (F 18) 2 x35) 3 x36)) 19 (upd (upd (upd (upd (upd (upd (upd (F 19) 0 x37) 1 x38) 2 x39) 3 x40) 4 x41) 5 x42) 6 x43)) (vA (vA A 18 (vA (A 18) 1 g44)) 19 (vA (vA (vA (vA (vA (vA (vA (A 19) 7 g45) 8 g46) 9 g47) 10 g48) 11 g49) 12 g50) 13 g51)) B D MF (vA (vA MA 2 g54) 3 g55) MD MB) := hD
    have e3 : g55 = upd (MA 3) 1 1 := by
      rcases hr53.2 with q9 | q9
      · exact absurd q9.2.1 (by decide)
      · exact q9.2.2.2.trans (congrArg (fun z => upd (MA 3) z 1) (show (1 : Int32).toNatClampNeg = 1 by decide))
    refine lv_pop hx hb dL_law_1950 rfl ?_
    refine lv_goto (tgt := 2156) hx hb dL_law_1951 (by decide) ?_
    exact kk (vA (vA F 18 (upd (upd (F 18) 2 x35) 3 x36)) 19 (upd (upd (upd (upd (upd (upd (upd (F 19) 0 x37) 1 x38) 2 x39) 3 x40) 4 x41) 5 x42) 6 x43)) (vA (vA A 18 (vA (A 18) 1 g44)) 19 (vA (vA (vA (vA (vA (vA (vA (A 19) 7 g45) 8 g46) 9 g47) 10 g48) 11 g49) 12 g50) 13 g51)) B D MF (vA (vA MA 2 g54) 3 g55) MD MB H locs ls ⟨hX.1, hX.2.1, hX.2.2.1, hX.2.2.2.1, hX.2.2.2.2.1, hX.2.2.2.2.2.1, hX.2.2.2.2.2.2.1, hX.2.2.2.2.2.2.2.1, hX.2.2.2.2.2.2.2.2.1, hX.2.2.2.2.2.2.2.2.2.1, hX.2.2.2.2.2.2.2.2.2.2.1, hX.2.2.2.2.2.2.2.2.2.2.2.1, hX.2.2.2.2.2.2.2.2.2.2.2.2.1, hX.2.2.2.2.2.2.2.2.2.2.2.2.2.1, hX.2.2.2.2.2.2.2.2.2.2.2.2.2.2.1, hX.2.2.2.2.2.2.2.2.2.2.2.2.2.2.2.1, hX.2.2.2.2.2.2.2.2.2.2.2.2.2.2.2.2.1, hX.2.2.2.2.2.2.2.2.2.2.2.2.2.2.2.2.2.1, (IB_arr (k := 1) (IB_put (k := 3) (IB_put (k := 2) hX.2.2.2.2.2.2.2.2.2.2.2.2.2.2.2.2.2.2.1 (hbx35)) (hbx36)) (AJ_full _)), (IB_arr (k := 13) (IB_arr (k := 12) (IB_arr (k := 11) (IB_arr (k := 10) (IB_arr (k := 9) (IB_arr (k := 8) (IB_arr (k := 7) (IB_put (k := 6) (IB_put (k := 5) (IB_put (k := 4) (IB_put (k := 3) (IB_put (k := 2) (IB_put (k := 1) (IB_put (k := 0) hX.2.2.2.2.2.2.2.2.2.2.2.2.2.2.2.2.2.2.2.1 (i32b _)) (i32b _)) (i32b _)) (i32b _)) (i32b _)) (hbx42)) (hbx43)) (AJ_full _)) (AJ_full _)) (AJ_full _)) hg48) (AJ_full _)) hg50) (AJ_full _)), hX.2.2.2.2.2.2.2.2.2.2.2.2.2.2.2.2.2.2.2.2.1, hX.2.2.2.2.2.2.2.2.2.2.2.2.2.2.2.2.2.2.2.2.2.1, hX.2.2.2.2.2.2.2.2.2.2.2.2.2.2.2.2.2.2.2.2.2.2.1, hX.2.2.2.2.2.2.2.2.2.2.2.2.2.2.2.2.2.2.2.2.2.2.2.1, hX.2.2.2.2.2.2.2.2.2.2.2.2.2.2.2.2.2.2.2.2.2.2.2.2.1, hX.2.2.2.2.2.2.2.2.2.2.2.2.2.2.2.2.2.2.2.2.2.2.2.2.2.1, hX.2.2.2.2.2.2.2.2.2.2.2.2.2.2.2.2.2.2.2.2.2.2.2.2.2.2⟩ ⟨(IM_arr (k := 3) (IM_arr (k := 2) hM.1 hg54) hg55), hM.2.1, hr53.1⟩ ⟨(by show ((F 16 3).toInt = 0 ∧ (g55 0).toInt = 0) ∨ (¬ (F 16 3).toInt = 0 ∧ ¬ (g55 0).toInt = 0); rw [e3]; exact hR.1), (by show (x36.toInt = 0 ∧ (g55 1).toInt = 0) ∨ (¬ x36.toInt = 0 ∧ ¬ (g55 1).toInt = 0); rw [e3]; exact Or.inr ⟨by omega, (show ¬ (1 : Int32).toInt = 0 by decide)⟩), (by show ((F 20 3).toInt = 0 ∧ (g55 2).toInt = 0) ∨ (¬ (F 20 3).toInt = 0 ∧ ¬ (g55 2).toInt = 0); rw [e3]; exact hR.2.2.1), hR.2.2.2⟩ hP hD hS hl
  · refine behDi (wr := ((uX6 cs (Q 0 0) (fun _ => Q 0 1) (F 1) (A 1) (B 1) (D 1)) ++ ((uX9 cs (Q 0 1) (Q 2) (F 2) (A 2) (B 2) (D 2)) ++ ((uX3 cs (Q 0 2) (Q 3) (F 3) (A 3) (B 3) (D 3)) ++ ((uX5 cs (Q 0 6) (Q 6) (F 6) (A 6) (B 6) (D 6)) ++ ((uX5 cs (Q 0 7) (Q 7) (F 7) (A 7) (B 7) (D 7)) ++ ((uX0 cs (Q 0 8) (Q 8) (F 8) (A 8) (B 8) (D 8)) ++ ((uX1 cs (Q 0 9) (Q 9) (F 9) (A 9) (B 9) (D 9)) ++ ((uX4 cs (Q 0 10) (Q 10) (F 10) (A 10) (B 10) (D 10)) ++ ((uX2 cs (Q 0 11) (Q 11) (F 11) (A 11) (B 11) (D 11)) ++ ((uX7 cs (Q 0 20) (Q 12) (F 12) (A 12) (B 12) (D 12)) ++ ((uX7 cs (Q 0 21) (Q 13) (F 13) (A 13) (B 13) (D 13)) ++ ((uX7 cs (Q 0 22) (Q 14) (F 14) (A 14) (B 14) (D 14)) ++ ((uX7 cs (Q 0 23) (Q 15) (F 15) (A 15) (B 15) (D 15)) ++ ((uX8 cs (Q 0 30) (Q 16) (F 16) (A 16) (B 16) (D 16)) ++ ((uX3 cs (Q 16 0) (Q 17) (F 17) (A 17) (B 17) (D 17)) ++ ((uX8 cs (Q 0 31) (Q 18) (F 18) (A 18) (B 18) (D 18)) ++ ((uX3 cs (Q 18 0) (Q 19) (F 19) (A 19) (B 19) (D 19)) ++ ((uX5 cs (Q 8 10) (Q 22) (F 22) (A 22) (B 22) (D 22)) ++ ((uX5 cs (Q 8 11) (Q 23) (F 23) (A 23) (B 23) (D 23)) ++ ((uX5 cs (Q 8 12) (Q 24) (F 24) (A 24) (B 24) (D 24)) ++ ((uX5 cs (Q 8 13) (Q 25) (F 25) (A 25) (B 25) (D 25)) ++ ((uX5 cs (Q 8 14) (Q 26) (F 26) (A 26) (B 26) (D 26)) ++ (mS cs h2 q2 MF MA MD MB)))))))))))))))))))))))) (runVD (As := [.int 2]) (rest := []) ⟨hx, hb, hml, hown, ht⟩ (sX10_image_2 l G cs h1 (Q 0) (F 0) (A 0) (B 0) (D 0) hX.1 (Q 4) (F 4) (A 4) (B 4) (D 4) hX.2.2.2.2.1 (Q 5) (F 5) (A 5) (B 5) (D 5) hX.2.2.2.2.2.1 (Q 20) (F 20) (A 20) (B 20) (D 20) hX.2.2.2.2.2.2.2.2.2.2.2.2.2.2.2.2.2.2.2.2.1 (Q 21) (F 21) (A 21) (B 21) (D 21) hX.2.2.2.2.2.2.2.2.2.2.2.2.2.2.2.2.2.2.2.2.2.1) okV_RL_257 ⟨(Nat.le_of_ble_eq_true rfl), (Nat.le_of_ble_eq_true rfl)⟩ hK hP hD [0, 1, 2, 14, 15, 16, 17, 18, 19, 20, 21, 22, 23, 76, 77, 78, 79, 80, 81, 82, 83, 84, 85] rfl (by decide +kernel) rfl 0 rfl rfl hl.1 rfl (Nat.le_of_ble_eq_true rfl) dL_law_1937 ⟨(Nat.le_of_ble_eq_true rfl), (Nat.le_of_ble_eq_true rfl)⟩) hP hD hS (fun _ h => h) [0, 1, 2, 14, 15, 16, 17, 18, 19, 20, 21, 22, 23, 76, 77, 78, 79, 80, 81, 82, 83, 84, 85] [3, 4, 5, 6, 7, 8, 9, 10, 11, 12, 13, 24, 25, 26, 27, 28, 29, 30, 31, 32, 33, 34, 35, 36, 37, 38, 39, 40, 41, 42, 43, 44, 45, 46, 47, 48, 49, 50, 51, 52, 53, 54, 55, 56, 57, 58, 59, 60, 61, 62, 63, 64, 65, 66, 67, 68, 69, 70, 71, 72, 73, 74, 75, 86, 87, 88, 89, 90, 91, 92, 93, 94, 95, 96, 97, 98, 99, 100, 101, 102, 103, 104, 105, 106, 107, 108, 109, 110, 111, 112, 113, 114, 115, 116, 117, 118, 119, 120] rfl rfl (by decide +kernel) (by decide +kernel) (fun r9 u H locs hu hP hD hS => ?_)
    obtain ⟨x58, x59, x60, x61, x62, x63, x64, x65, x66, g67, g68, g69, g70, g71, g72, g73, g74⟩ := u
    obtain ⟨r57, rfl⟩ : ∃ z, z = r9 := ⟨_, rfl⟩
    obtain ⟨hbx58, hbx59, hbx65, hbx66, hg71, hg73, hr57⟩ := hu
    have hbx58 : (0 : Int) ≤ x58.toInt ∧ x58.toInt ≤ 60 := hbx58
    have hbx59 : (0 : Int) ≤ x59.toInt ∧ x59.toInt ≤ 1 := hbx59
    have hbx65 : (0 : Int) ≤ x65.toInt ∧ x65.toInt ≤ 7 := hbx65
    have hbx66 : (0 : Int) ≤ x66.toInt ∧ x66.toInt ≤ 6 := hbx66
    have hg71 : AJ (0) 127 g71 := hg71
    have hg73 : AJ (0) 63 g73 := hg73
    have kk75 : (2 : Int32).toInt = 2 := by decide
    have hr57 : r57.toInt = 0 ∧ x59.toInt = 1 := hr57
    have hP : va_P G vwCl (LW cs h1 Q h2 q2 (vA (vA F 20 (upd (upd (F 20) 2 x58) 3 x59)) 21 (upd (upd (upd (upd (upd (upd (upd (F 21) 0 x60) 1 x61) 2 x62) 3 x63) 4 x64) 5 x65) 6 x66)) (vA (vA A 20 (vA (A 20) 1 g67)) 21 (vA (vA (vA (vA (vA (vA (vA (A 21) 7 g68) 8 g69) 9 g70) 10 g71) 11 g72) 12 g73) 13 g74)) B D MF MA MD MB) H := hP.sub [98, 99, 100, 0, 1, 2, 3, 4, 5, 6, 7, 8, 9, 10, 101, 102, 103, 104, 105, 106, 107, 108, 109, 110, 11, 12, 13, 14, 15, 16, 17, 18, 19, 20, 21, 22, 23, 24, 25, 26, 27, 28, 29, 30, 31, 32, 33, 34, 35, 36, 37, 38, 39, 40, 41, 42, 43, 44, 45, 46, 47, 48, 49, 50, 51, 52, 53, 54, 55, 56, 57, 58, 59, 60, 61, 62, 111, 112, 113, 114, 115, 116, 117, 118, 119, 120, 63, 64, 65, 66, 67, 68, 69, 70, 71, 72, 73, 74, 75, 76, 77, 78, 79, 80, 81, 82, 83, 84, 85, 86, 87, 88, 89, 90, 91, 92, 93, 94, 95, 96, 97] rfl
    have hD : va_D (fun q : Nat => s.heap.size ≤ q) (LW cs h1 Q h2 q2 (vA (vA F 20 (upd (upd (F 20) 2 x58) 3 x59)) 21 (upd (upd (upd (upd (upd (upd (upd (F 21) 0 x60) 1 x61) 2 x62) 3 x63) 4 x64) 5 x65) 6 x66)) (vA (vA A 20 (vA (A 20) 1 g67)) 21 (vA (vA (vA (vA (vA (vA (vA (A 21) 7 g68) 8 g69) 9 g70) 10 g71) 11 g72) 12 g73) 13 g74)) B D MF MA MD MB) := hD.sub [98, 99, 100, 0, 1, 2, 3, 4, 5, 6, 7, 8, 9, 10, 101, 102, 103, 104, 105, 106, 107, 108, 109, 110, 11, 12, 13, 14, 15, 16, 17, 18, 19, 20, 21, 22, 23, 24, 25, 26, 27, 28, 29, 30, 31, 32, 33, 34, 35, 36, 37, 38, 39, 40, 41, 42, 43, 44, 45, 46, 47, 48, 49, 50, 51, 52, 53, 54, 55, 56, 57, 58, 59, 60, 61, 62, 111, 112, 113, 114, 115, 116, 117, 118, 119, 120, 63, 64, 65, 66, 67, 68, 69, 70, 71, 72, 73, 74, 75, 76, 77, 78, 79, 80, 81, 82, 83, 84, 85, 86, 87, 88, 89, 90, 91, 92, 93, 94, 95, 96, 97] (by decide +kernel) rfl
    refine lv_pop hx hb dL_law_1940 rfl ?_
    refine lv_aload_n hx hb dL_law_1941 rfl (lv_at hl 1 rfl) ?_
    refine lv_aload_n hx hb dL_law_1942 rfl (lv_at hl 3 rfl) ?_
    refine lv_iload_n hx hb dL_law_1943 rfl (lv_at hl 0 rfl) ?_
    refine lv_iconst (v := 1) hx hb dL_law_1944 (by decide) ?_
    refine lv_iadd hx hb dL_law_1945 ?_
    refine va_sld hx hb hXs hbl hbA hS (inK t1 (by omega) (by omega)) dL_law_1946 ?_
    refine W.eq (g2 := F0 m 1947 ls [.int 2, .ref h2]) (by rw [← ea1]) ?_
    refine behDi (wr := (XLW cs h1 Q (vA (vA F 20 (upd (upd (F 20) 2 x58) 3 x59)) 21 (upd (upd (upd (upd (upd (upd (upd (F 21) 0 x60) 1 x61) 2 x62) 3 x63) 4 x64) 5 x65) 6 x66)) (vA (vA A 20 (vA (A 20) 1 g67)) 21 (vA (vA (vA (vA (vA (vA (vA (A 21) 7 g68) 8 g69) 9 g70) 10 g71) 11 g72) 12 g73) 13 g74)) B D)) (runVD (As := [.int 2]) (rest := []) ⟨hx, hb, hml, hown, ht⟩ (sX11_image l G cs h2 q2 MF MA MD MB hM.1 2 hM.2.1 hM.2.2) okV_RL_260 ⟨(Nat.le_of_ble_eq_true rfl), (Nat.le_of_ble_eq_true rfl)⟩ hK hP hD [101, 102, 103, 104, 105, 106, 107, 108, 109, 110, 111, 112, 113, 114, 115, 116, 117, 118, 119, 120] rfl (by decide +kernel) rfl 101 rfl rfl hl.1 rfl (Nat.le_of_ble_eq_true rfl) dL_law_1947 ⟨(Nat.le_of_ble_eq_true rfl), (Nat.le_of_ble_eq_true rfl)⟩) hP hD hS (fun _ h => h) [101, 102, 103, 104, 105, 106, 107, 108, 109, 110, 111, 112, 113, 114, 115, 116, 117, 118, 119, 120] [0, 1, 2, 3, 4, 5, 6, 7, 8, 9, 10, 11, 12, 13, 14, 15, 16, 17, 18, 19, 20, 21, 22, 23, 24, 25, 26, 27, 28, 29, 30, 31, 32, 33, 34, 35, 36, 37, 38, 39, 40, 41, 42, 43, 44, 45, 46, 47, 48, 49, 50, 51, 52, 53, 54, 55, 56, 57, 58, 59, 60, 61, 62, 63, 64, 65, 66, 67, 68, 69, 70, 71, 72, 73, 74, 75, 76, 77, 78, 79, 80, 81, 82, 83, 84, 85, 86, 87, 88, 89, 90, 91, 92, 93, 94, 95, 96, 97, 98, 99, 100] rfl rfl (by decide +kernel) (by decide +kernel) (fun r9 u H locs hu hP hD hS => ?_)
    obtain ⟨g77, g78⟩ := u
    obtain ⟨r76, rfl⟩ : ∃ z, z = r9 := ⟨_, rfl⟩
    obtain ⟨hg77, hg78, hr76⟩ := hu
    have hg77 : AI 2 g77 := hg77
    have hg78 : AI 3 g78 := hg78
    have kk79 : (2 : Int32).toInt = 2 := by decide
    have hr76 : (∀ k : Nat, k < 3 → WG (im g77 k)) ∧ ((r76.toInt = -2 ∧ ((2 : Int32).toInt < 0 ∨ 2 < (2 : Int32).toInt) ∧ g78 = (MA 3)) ∨ (r76.toInt = 0 ∧ 0 ≤ (2 : Int32).toInt ∧ (2 : Int32).toInt ≤ 2 ∧ g78 = upd (MA 3) (2 : Int32).toNatClampNeg 1)) := hr76
    have hP : va_P G vwCl (LW cs h1 Q h2 q2 (vA (vA F 20 (upd (upd (F 20) 2 x58) 3 x59)) 21 (upd (upd (upd (upd (upd (upd (upd (F 21) 0 x60) 1 x61) 2 x62) 3 x63) 4 x64) 5 x65) 6 x66)) (vA (vA A 20 (vA (A 20) 1 g67)) 21 (vA (vA (vA (vA (vA (vA (vA (A 21) 7 g68) 8 g69) 9 g70) 10 g71) 11 g72) 12 g73) 13 g74)) B D MF (vA (vA MA 2 g77) 3 g78) MD MB) H := hP
    have hD : va_D (fun q : Nat => s.heap.size ≤ q) (LW cs h1 Q h2 q2 (vA (vA F 20 (upd (upd (F 20) 2 x58) 3 x59)) 21 (upd (upd (upd (upd (upd (upd (upd (F 21) 0 x60) 1 x61) 2 x62) 3 x63) 4 x64) 5 x65) 6 x66)) (vA (vA A 20 (vA (A 20) 1 g67)) 21 (vA (vA (vA (vA (vA (vA (vA (A 21) 7 g68) 8 g69) 9 g70) 10 g71) 11 g72) 12 g73) 13 g74)) B D MF (vA (vA MA 2 g77) 3 g78) MD MB) := hD
    have e3 : g78 = upd (MA 3) 2 1 := by
      rcases hr76.2 with q9 | q9
      · exact absurd q9.2.1 (by decide)
      · exact q9.2.2.2.trans (congrArg (fun z => upd (MA 3) z 1) (show (2 : Int32).toNatClampNeg = 2 by decide))
    refine lv_pop hx hb dL_law_1950 rfl ?_
    refine lv_goto (tgt := 2156) hx hb dL_law_1951 (by decide) ?_
    exact kk (vA (vA F 20 (upd (upd (F 20) 2 x58) 3 x59)) 21 (upd (upd (upd (upd (upd (upd (upd (F 21) 0 x60) 1 x61) 2 x62) 3 x63) 4 x64) 5 x65) 6 x66)) (vA (vA A 20 (vA (A 20) 1 g67)) 21 (vA (vA (vA (vA (vA (vA (vA (A 21) 7 g68) 8 g69) 9 g70) 10 g71) 11 g72) 12 g73) 13 g74)) B D MF (vA (vA MA 2 g77) 3 g78) MD MB H locs ls ⟨hX.1, hX.2.1, hX.2.2.1, hX.2.2.2.1, hX.2.2.2.2.1, hX.2.2.2.2.2.1, hX.2.2.2.2.2.2.1, hX.2.2.2.2.2.2.2.1, hX.2.2.2.2.2.2.2.2.1, hX.2.2.2.2.2.2.2.2.2.1, hX.2.2.2.2.2.2.2.2.2.2.1, hX.2.2.2.2.2.2.2.2.2.2.2.1, hX.2.2.2.2.2.2.2.2.2.2.2.2.1, hX.2.2.2.2.2.2.2.2.2.2.2.2.2.1, hX.2.2.2.2.2.2.2.2.2.2.2.2.2.2.1, hX.2.2.2.2.2.2.2.2.2.2.2.2.2.2.2.1, hX.2.2.2.2.2.2.2.2.2.2.2.2.2.2.2.2.1, hX.2.2.2.2.2.2.2.2.2.2.2.2.2.2.2.2.2.1, hX.2.2.2.2.2.2.2.2.2.2.2.2.2.2.2.2.2.2.1, hX.2.2.2.2.2.2.2.2.2.2.2.2.2.2.2.2.2.2.2.1, (IB_arr (k := 1) (IB_put (k := 3) (IB_put (k := 2) hX.2.2.2.2.2.2.2.2.2.2.2.2.2.2.2.2.2.2.2.2.1 (hbx58)) (hbx59)) (AJ_full _)), (IB_arr (k := 13) (IB_arr (k := 12) (IB_arr (k := 11) (IB_arr (k := 10) (IB_arr (k := 9) (IB_arr (k := 8) (IB_arr (k := 7) (IB_put (k := 6) (IB_put (k := 5) (IB_put (k := 4) (IB_put (k := 3) (IB_put (k := 2) (IB_put (k := 1) (IB_put (k := 0) hX.2.2.2.2.2.2.2.2.2.2.2.2.2.2.2.2.2.2.2.2.2.1 (i32b _)) (i32b _)) (i32b _)) (i32b _)) (i32b _)) (hbx65)) (hbx66)) (AJ_full _)) (AJ_full _)) (AJ_full _)) hg71) (AJ_full _)) hg73) (AJ_full _)), hX.2.2.2.2.2.2.2.2.2.2.2.2.2.2.2.2.2.2.2.2.2.2.1, hX.2.2.2.2.2.2.2.2.2.2.2.2.2.2.2.2.2.2.2.2.2.2.2.1, hX.2.2.2.2.2.2.2.2.2.2.2.2.2.2.2.2.2.2.2.2.2.2.2.2.1, hX.2.2.2.2.2.2.2.2.2.2.2.2.2.2.2.2.2.2.2.2.2.2.2.2.2.1, hX.2.2.2.2.2.2.2.2.2.2.2.2.2.2.2.2.2.2.2.2.2.2.2.2.2.2⟩ ⟨(IM_arr (k := 3) (IM_arr (k := 2) hM.1 hg77) hg78), hM.2.1, hr76.1⟩ ⟨(by show ((F 16 3).toInt = 0 ∧ (g78 0).toInt = 0) ∨ (¬ (F 16 3).toInt = 0 ∧ ¬ (g78 0).toInt = 0); rw [e3]; exact hR.1), (by show ((F 18 3).toInt = 0 ∧ (g78 1).toInt = 0) ∨ (¬ (F 18 3).toInt = 0 ∧ ¬ (g78 1).toInt = 0); rw [e3]; exact hR.2.1), (by show (x59.toInt = 0 ∧ (g78 2).toInt = 0) ∨ (¬ x59.toInt = 0 ∧ ¬ (g78 2).toInt = 0); rw [e3]; exact Or.inr ⟨by omega, (show ¬ (1 : Int32).toInt = 0 by decide)⟩), hR.2.2.2⟩ hP hD hS hl

