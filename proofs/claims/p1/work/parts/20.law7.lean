set_option maxRecDepth 100000 in
set_option maxHeartbeats 8000000 in
theorem law_56 {p : Program} {e : Env} {s : State} {m : MethodId} {below : List Frame} {meth : Method} {c : Code} (l : Launch) {b : Nat} {xs : Nat → Int32} {G : va_G} {cs : Nat → ClassId} {h1 h2 : Nat} {q1 q2 : Nat → Nat} {H : Heap} {locs : List Loc} {ls : Array Slot} (C0 : lw_At p s m meth c b 6 xs) (hK : KK G (TY cs) s) (hP : va_P G vwCl (xW cs h1 q1 ++ mW cs h2 q2) H) (hD : va_D (fun q : Nat => s.heap.size ≤ q) (xW cs h1 q1 ++ mW cs h2 q2)) (hS : va_S (fun q : Nat => s.heap.size ≤ q) s.heap H locs) (hl : lv_has ls 4 [(3, .int 0), (2, .ref h2), (1, .ref h1), (0, .ref b)]) : W p l e room_1 s m #[Value.ref b] below meth c H locs 121 26756 (lw_Z below #[Value.ref b] s) (F0 m 33 ls [.int 56]) := by
  obtain ⟨hx, hb, hr, hml, hown, hts, hX, hbl, hlocks, hgv⟩ := id C0
  have hown : s.vm.findClass RL = some m.cls := hown
  have ht : ∀ w ∈ tb, w.before #[Value.ref b] s = true := fun w h => hts w (List.mem_filter.mp h).1
  have hbA : ¬ (fun q : Nat => s.heap.size ≤ q) b := Nat.not_le.mpr hbl
  have hP := hP.sub (ws' := [(xc0 cs h1 q1), (xc12 cs h1 q1), (xc13 cs h1 q1), (mc0 cs h2 q2), (mc1 cs h2 q2)]) [0, 12, 13, 64, 65] rfl
  have hD := hD.sub (ws' := [(xc0 cs h1 q1), (xc12 cs h1 q1), (xc13 cs h1 q1), (mc0 cs h2 q2), (mc1 cs h2 q2)]) [0, 12, 13, 64, 65] (by decide) rfl
  refine lv_tableIn (off := 1791) (tgt := 1824) hx hb dL_law_33 (by decide) (by decide) (by decide) (by decide) ?_
  refine lv_aload_n hx hb dL_law_1824 rfl (lv_at hl 2 rfl) ?_
  refine lv_aload_n hx hb dL_law_1825 rfl (lv_at hl 3 rfl) ?_
  refine lv_iload_n hx hb dL_law_1826 rfl (lv_at hl 0 rfl) ?_
  refine lv_iconst (v := 1) hx hb dL_law_1827 (by decide) ?_
  refine lv_iadd hx hb dL_law_1828 ?_
  refine lv_topi (fun v1 ev1 => ?_)
  obtain rfl : v1 = 1 := ev1.trans (by decide)
  refine va_sld hx hb hX hbl hbA hS (show ¬ (_ ∨ _) by decide) dL_law_1829 ?_
  refine W.eq (g2 := F0 m 1830 ls [.int (xs 1), .ref h1]) rfl ?_
  refine lv_aload_n hx hb dL_law_1830 rfl (lv_at hl 3 rfl) ?_
  refine lv_iload_n hx hb dL_law_1831 rfl (lv_at hl 0 rfl) ?_
  refine lv_iconst (v := 2) hx hb dL_law_1832 (by decide) ?_
  refine lv_iadd hx hb dL_law_1833 ?_
  refine lv_topi (fun v2 ev2 => ?_)
  obtain rfl : v2 = 2 := ev2.trans (by decide)
  refine va_sld hx hb hX hbl hbA hS (show ¬ (_ ∨ _) by decide) dL_law_1834 ?_
  refine W.eq (g2 := F0 m 1835 ls [.int (xs 2), .int (xs 1), .ref h1]) rfl ?_
  refine lv_aload_n hx hb dL_law_1835 rfl (lv_at hl 3 rfl) ?_
  refine lv_iload_n hx hb dL_law_1836 rfl (lv_at hl 0 rfl) ?_
  refine lv_iconst (v := 3) hx hb dL_law_1837 (by decide) ?_
  refine lv_iadd hx hb dL_law_1838 ?_
  refine lv_topi (fun v3 ev3 => ?_)
  obtain rfl : v3 = 3 := ev3.trans (by decide)
  refine va_sld hx hb hX hbl hbA hS (show ¬ (_ ∨ _) by decide) dL_law_1839 ?_
  refine W.eq (g2 := F0 m 1840 ls [.int (xs 3), .int (xs 2), .int (xs 1), .ref h1]) rfl ?_
  refine behI (runVP (As := [.int (xs 1), .int (xs 2), .int (xs 3)]) (rest := []) ⟨hx, hb, hml, hown, ht⟩ (pX10_tell l G cs h1 q1 (xs 1) (xs 2) (xs 3)) okV_RL_245 ⟨(Nat.le_of_ble_eq_true rfl), (Nat.le_of_ble_eq_true rfl)⟩ hK hP [0, 1, 2] rfl 0 rfl rfl hl.1 rfl (Nat.le_of_ble_eq_true rfl) dL_law_1840 ⟨(Nat.le_of_ble_eq_true rfl), (Nat.le_of_ble_eq_true rfl)⟩) hP hS (fun _ h => h) (fun H locs hP hS => ?_)
  refine lv_aload_n hx hb dL_law_1843 rfl (lv_at hl 1 rfl) ?_
  refine lv_aload_n hx hb dL_law_1844 rfl (lv_at hl 3 rfl) ?_
  refine lv_iload_n hx hb dL_law_1845 rfl (lv_at hl 0 rfl) ?_
  refine lv_iconst (v := 1) hx hb dL_law_1846 (by decide) ?_
  refine lv_iadd hx hb dL_law_1847 ?_
  refine lv_topi (fun v4 ev4 => ?_)
  obtain rfl : v4 = 1 := ev4.trans (by decide)
  refine va_sld hx hb hX hbl hbA hS (show ¬ (_ ∨ _) by decide) dL_law_1848 ?_
  refine W.eq (g2 := F0 m 1849 ls [.int (xs 1), .ref h2, .int (-2)]) rfl ?_
  refine lv_aload_n hx hb dL_law_1849 rfl (lv_at hl 3 rfl) ?_
  refine lv_iload_n hx hb dL_law_1850 rfl (lv_at hl 0 rfl) ?_
  refine lv_iconst (v := 2) hx hb dL_law_1851 (by decide) ?_
  refine lv_iadd hx hb dL_law_1852 ?_
  refine lv_topi (fun v5 ev5 => ?_)
  obtain rfl : v5 = 2 := ev5.trans (by decide)
  refine va_sld hx hb hX hbl hbA hS (show ¬ (_ ∨ _) by decide) dL_law_1853 ?_
  refine W.eq (g2 := F0 m 1854 ls [.int (xs 2), .int (xs 1), .ref h2, .int (-2)]) rfl ?_
  refine lv_aload_n hx hb dL_law_1854 rfl (lv_at hl 3 rfl) ?_
  refine lv_iload_n hx hb dL_law_1855 rfl (lv_at hl 0 rfl) ?_
  refine lv_iconst (v := 3) hx hb dL_law_1856 (by decide) ?_
  refine lv_iadd hx hb dL_law_1857 ?_
  refine lv_topi (fun v6 ev6 => ?_)
  obtain rfl : v6 = 3 := ev6.trans (by decide)
  refine va_sld hx hb hX hbl hbA hS (show ¬ (_ ∨ _) by decide) dL_law_1858 ?_
  refine W.eq (g2 := F0 m 1859 ls [.int (xs 3), .int (xs 2), .int (xs 1), .ref h2, .int (-2)]) rfl ?_
  refine behI (runVP (As := [.int (xs 1), .int (xs 2), .int (xs 3)]) (rest := [.int (-2)]) ⟨hx, hb, hml, hown, ht⟩ (pX11_tell l G cs h2 q2 (xs 1) (xs 2) (xs 3)) okV_RL_248 ⟨(Nat.le_of_ble_eq_true rfl), (Nat.le_of_ble_eq_true rfl)⟩ hK hP [3, 4] rfl 3 rfl rfl hl.1 rfl (Nat.le_of_ble_eq_true rfl) dL_law_1859 ⟨(Nat.le_of_ble_eq_true rfl), (Nat.le_of_ble_eq_true rfl)⟩) hP hS (fun _ h => h) (fun H locs hP hS => ?_)
  refine lv_icmp_eq (tgt := 2158) hx hb dL_law_1862 (by decide) (fun c8 => ?_) (fun c7 => False.elim (by revert c7; decide))
  exact law_tail l C0 hS (lv_sub hl [0, 3] rfl) (Nat.le_of_ble_eq_true rfl) (Nat.le_of_ble_eq_true rfl)

set_option maxRecDepth 100000 in
set_option maxHeartbeats 8000000 in
theorem law_57 {p : Program} {e : Env} {s : State} {m : MethodId} {below : List Frame} {meth : Method} {c : Code} (l : Launch) {b : Nat} {xs : Nat → Int32} {G : va_G} {cs : Nat → ClassId} {h1 h2 : Nat} {q1 q2 : Nat → Nat} {H : Heap} {locs : List Loc} {ls : Array Slot} (C0 : lw_At p s m meth c b 6 xs) (hK : KK G (TY cs) s) (hP : va_P G vwCl (xW cs h1 q1 ++ mW cs h2 q2) H) (hD : va_D (fun q : Nat => s.heap.size ≤ q) (xW cs h1 q1 ++ mW cs h2 q2)) (hS : va_S (fun q : Nat => s.heap.size ≤ q) s.heap H locs) (hl : lv_has ls 4 [(3, .int 0), (2, .ref h2), (1, .ref h1), (0, .ref b)]) : W p l e room_1 s m #[Value.ref b] below meth c H locs 121 26756 (lw_Z below #[Value.ref b] s) (F0 m 33 ls [.int 57]) := by
  obtain ⟨hx, hb, hr, hml, hown, hts, hX, hbl, hlocks, hgv⟩ := id C0
  have hown : s.vm.findClass RL = some m.cls := hown
  have ht : ∀ w ∈ tb, w.before #[Value.ref b] s = true := fun w h => hts w (List.mem_filter.mp h).1
  have hbA : ¬ (fun q : Nat => s.heap.size ≤ q) b := Nat.not_le.mpr hbl
  have hP := hP.sub (ws' := [(xc0 cs h1 q1), (xc12 cs h1 q1), (xc13 cs h1 q1), (mc0 cs h2 q2), (mc1 cs h2 q2)]) [0, 12, 13, 64, 65] rfl
  have hD := hD.sub (ws' := [(xc0 cs h1 q1), (xc12 cs h1 q1), (xc13 cs h1 q1), (mc0 cs h2 q2), (mc1 cs h2 q2)]) [0, 12, 13, 64, 65] (by decide) rfl
  refine lv_tableIn (off := 1834) (tgt := 1867) hx hb dL_law_33 (by decide) (by decide) (by decide) (by decide) ?_
  refine lv_aload_n hx hb dL_law_1867 rfl (lv_at hl 2 rfl) ?_
  refine lv_aload_n hx hb dL_law_1868 rfl (lv_at hl 3 rfl) ?_
  refine lv_iload_n hx hb dL_law_1869 rfl (lv_at hl 0 rfl) ?_
  refine lv_iconst (v := 1) hx hb dL_law_1870 (by decide) ?_
  refine lv_iadd hx hb dL_law_1871 ?_
  refine lv_topi (fun v1 ev1 => ?_)
  obtain rfl : v1 = 1 := ev1.trans (by decide)
  refine va_sld hx hb hX hbl hbA hS (show ¬ (_ ∨ _) by decide) dL_law_1872 ?_
  refine W.eq (g2 := F0 m 1873 ls [.int (xs 1), .ref h1]) rfl ?_
  refine lv_aload_n hx hb dL_law_1873 rfl (lv_at hl 3 rfl) ?_
  refine lv_iload_n hx hb dL_law_1874 rfl (lv_at hl 0 rfl) ?_
  refine lv_iconst (v := 2) hx hb dL_law_1875 (by decide) ?_
  refine lv_iadd hx hb dL_law_1876 ?_
  refine lv_topi (fun v2 ev2 => ?_)
  obtain rfl : v2 = 2 := ev2.trans (by decide)
  refine va_sld hx hb hX hbl hbA hS (show ¬ (_ ∨ _) by decide) dL_law_1877 ?_
  refine W.eq (g2 := F0 m 1878 ls [.int (xs 2), .int (xs 1), .ref h1]) rfl ?_
  refine lv_aload_n hx hb dL_law_1878 rfl (lv_at hl 3 rfl) ?_
  refine lv_iload_n hx hb dL_law_1879 rfl (lv_at hl 0 rfl) ?_
  refine lv_iconst (v := 3) hx hb dL_law_1880 (by decide) ?_
  refine lv_iadd hx hb dL_law_1881 ?_
  refine lv_topi (fun v3 ev3 => ?_)
  obtain rfl : v3 = 3 := ev3.trans (by decide)
  refine va_sld hx hb hX hbl hbA hS (show ¬ (_ ∨ _) by decide) dL_law_1882 ?_
  refine W.eq (g2 := F0 m 1883 ls [.int (xs 3), .int (xs 2), .int (xs 1), .ref h1]) rfl ?_
  refine behI (runVP (As := [.int (xs 1), .int (xs 2), .int (xs 3)]) (rest := []) ⟨hx, hb, hml, hown, ht⟩ (pX10_shut l G cs h1 q1 (xs 1) (xs 2) (xs 3)) okV_RL_249 ⟨(Nat.le_of_ble_eq_true rfl), (Nat.le_of_ble_eq_true rfl)⟩ hK hP [0, 1, 2] rfl 0 rfl rfl hl.1 rfl (Nat.le_of_ble_eq_true rfl) dL_law_1883 ⟨(Nat.le_of_ble_eq_true rfl), (Nat.le_of_ble_eq_true rfl)⟩) hP hS (fun _ h => h) (fun H locs hP hS => ?_)
  refine lv_aload_n hx hb dL_law_1886 rfl (lv_at hl 1 rfl) ?_
  refine lv_aload_n hx hb dL_law_1887 rfl (lv_at hl 3 rfl) ?_
  refine lv_iload_n hx hb dL_law_1888 rfl (lv_at hl 0 rfl) ?_
  refine lv_iconst (v := 1) hx hb dL_law_1889 (by decide) ?_
  refine lv_iadd hx hb dL_law_1890 ?_
  refine lv_topi (fun v4 ev4 => ?_)
  obtain rfl : v4 = 1 := ev4.trans (by decide)
  refine va_sld hx hb hX hbl hbA hS (show ¬ (_ ∨ _) by decide) dL_law_1891 ?_
  refine W.eq (g2 := F0 m 1892 ls [.int (xs 1), .ref h2, .int (-2)]) rfl ?_
  refine lv_aload_n hx hb dL_law_1892 rfl (lv_at hl 3 rfl) ?_
  refine lv_iload_n hx hb dL_law_1893 rfl (lv_at hl 0 rfl) ?_
  refine lv_iconst (v := 2) hx hb dL_law_1894 (by decide) ?_
  refine lv_iadd hx hb dL_law_1895 ?_
  refine lv_topi (fun v5 ev5 => ?_)
  obtain rfl : v5 = 2 := ev5.trans (by decide)
  refine va_sld hx hb hX hbl hbA hS (show ¬ (_ ∨ _) by decide) dL_law_1896 ?_
  refine W.eq (g2 := F0 m 1897 ls [.int (xs 2), .int (xs 1), .ref h2, .int (-2)]) rfl ?_
  refine lv_aload_n hx hb dL_law_1897 rfl (lv_at hl 3 rfl) ?_
  refine lv_iload_n hx hb dL_law_1898 rfl (lv_at hl 0 rfl) ?_
  refine lv_iconst (v := 3) hx hb dL_law_1899 (by decide) ?_
  refine lv_iadd hx hb dL_law_1900 ?_
  refine lv_topi (fun v6 ev6 => ?_)
  obtain rfl : v6 = 3 := ev6.trans (by decide)
  refine va_sld hx hb hX hbl hbA hS (show ¬ (_ ∨ _) by decide) dL_law_1901 ?_
  refine W.eq (g2 := F0 m 1902 ls [.int (xs 3), .int (xs 2), .int (xs 1), .ref h2, .int (-2)]) rfl ?_
  refine behI (runVP (As := [.int (xs 1), .int (xs 2), .int (xs 3)]) (rest := [.int (-2)]) ⟨hx, hb, hml, hown, ht⟩ (pX11_shut l G cs h2 q2 (xs 1) (xs 2) (xs 3)) okV_RL_252 ⟨(Nat.le_of_ble_eq_true rfl), (Nat.le_of_ble_eq_true rfl)⟩ hK hP [3, 4] rfl 3 rfl rfl hl.1 rfl (Nat.le_of_ble_eq_true rfl) dL_law_1902 ⟨(Nat.le_of_ble_eq_true rfl), (Nat.le_of_ble_eq_true rfl)⟩) hP hS (fun _ h => h) (fun H locs hP hS => ?_)
  refine lv_icmp_eq (tgt := 2158) hx hb dL_law_1905 (by decide) (fun c8 => ?_) (fun c7 => False.elim (by revert c7; decide))
  exact law_tail l C0 hS (lv_sub hl [0, 3] rfl) (Nat.le_of_ble_eq_true rfl) (Nat.le_of_ble_eq_true rfl)

set_option maxRecDepth 100000 in
set_option maxHeartbeats 8000000 in
theorem law_58 {p : Program} {e : Env} {s : State} {m : MethodId} {below : List Frame} {meth : Method} {c : Code} (l : Launch) {b : Nat} {xs : Nat → Int32} {G : va_G} {cs : Nat → ClassId} {h1 h2 : Nat} {q1 q2 : Nat → Nat} {H : Heap} {locs : List Loc} {ls : Array Slot} (C0 : lw_At p s m meth c b 6 xs) (hK : KK G (TY cs) s) (hP : va_P G vwCl (xW cs h1 q1 ++ mW cs h2 q2) H) (hD : va_D (fun q : Nat => s.heap.size ≤ q) (xW cs h1 q1 ++ mW cs h2 q2)) (hS : va_S (fun q : Nat => s.heap.size ≤ q) s.heap H locs) (hl : lv_has ls 4 [(3, .int 0), (2, .ref h2), (1, .ref h1), (0, .ref b)]) : W p l e room_1 s m #[Value.ref b] below meth c H locs 121 26756 (lw_Z below #[Value.ref b] s) (F0 m 33 ls [.int 58]) := by
  obtain ⟨hx, hb, hr, hml, hown, hts, hX, hbl, hlocks, hgv⟩ := id C0
  have hown : s.vm.findClass RL = some m.cls := hown
  have ht : ∀ w ∈ tb, w.before #[Value.ref b] s = true := fun w h => hts w (List.mem_filter.mp h).1
  have hbA : ¬ (fun q : Nat => s.heap.size ≤ q) b := Nat.not_le.mpr hbl
  have hP := hP.sub (ws' := [(xc0 cs h1 q1), (xc2 cs h1 q1), (xc12 cs h1 q1), (xc13 cs h1 q1), (xc53 cs h1 q1), (xc54 cs h1 q1), (xc56 cs h1 q1), (xc58 cs h1 q1), (xc60 cs h1 q1), (mc0 cs h2 q2), (mc1 cs h2 q2), (mc31 cs h2 q2)]) [0, 2, 12, 13, 53, 54, 56, 58, 60, 64, 65, 71] rfl
  have hD := hD.sub (ws' := [(xc0 cs h1 q1), (xc2 cs h1 q1), (xc12 cs h1 q1), (xc13 cs h1 q1), (xc53 cs h1 q1), (xc54 cs h1 q1), (xc56 cs h1 q1), (xc58 cs h1 q1), (xc60 cs h1 q1), (mc0 cs h2 q2), (mc1 cs h2 q2), (mc31 cs h2 q2)]) [0, 2, 12, 13, 53, 54, 56, 58, 60, 64, 65, 71] (by decide) rfl
  refine lv_tableIn (off := 1877) (tgt := 1910) hx hb dL_law_33 (by decide) (by decide) (by decide) (by decide) ?_
  refine lv_aload_n hx hb dL_law_1910 rfl (lv_at hl 2 rfl) ?_
  refine lv_aload_n hx hb dL_law_1911 rfl (lv_at hl 3 rfl) ?_
  refine lv_iload_n hx hb dL_law_1912 rfl (lv_at hl 0 rfl) ?_
  refine lv_iconst (v := 1) hx hb dL_law_1913 (by decide) ?_
  refine lv_iadd hx hb dL_law_1914 ?_
  refine lv_topi (fun v1 ev1 => ?_)
  obtain rfl : v1 = 1 := ev1.trans (by decide)
  refine va_sld hx hb hX hbl hbA hS (show ¬ (_ ∨ _) by decide) dL_law_1915 ?_
  refine W.eq (g2 := F0 m 1916 ls [.int (xs 1), .ref h1]) rfl ?_
  refine behI (runVP (As := [.int (xs 1)]) (rest := []) ⟨hx, hb, hml, hown, ht⟩ (pX10_count l G cs h1 q1 (xs 1)) okV_RL_253 ⟨(Nat.le_of_ble_eq_true rfl), (Nat.le_of_ble_eq_true rfl)⟩ hK hP [0, 1, 2, 3, 4, 5, 6, 7, 8] rfl 0 rfl rfl hl.1 rfl (Nat.le_of_ble_eq_true rfl) dL_law_1916 ⟨(Nat.le_of_ble_eq_true rfl), (Nat.le_of_ble_eq_true rfl)⟩) hP hS (fun _ h => h) (fun H locs hP hS => ?_)
  refine lv_aload_n hx hb dL_law_1919 rfl (lv_at hl 1 rfl) ?_
  refine lv_aload_n hx hb dL_law_1920 rfl (lv_at hl 3 rfl) ?_
  refine lv_iload_n hx hb dL_law_1921 rfl (lv_at hl 0 rfl) ?_
  refine lv_iconst (v := 1) hx hb dL_law_1922 (by decide) ?_
  refine lv_iadd hx hb dL_law_1923 ?_
  refine lv_topi (fun v2 ev2 => ?_)
  obtain rfl : v2 = 1 := ev2.trans (by decide)
  refine va_sld hx hb hX hbl hbA hS (show ¬ (_ ∨ _) by decide) dL_law_1924 ?_
  refine W.eq (g2 := F0 m 1925 ls [.int (xs 1), .ref h2, .int (spk 8 (xs 1) 0 (-1))]) rfl ?_
  refine behI (runVP (As := [.int (xs 1)]) (rest := [.int (spk 8 (xs 1) 0 (-1))]) ⟨hx, hb, hml, hown, ht⟩ (pX11_count l G cs h2 q2 (xs 1)) okV_RL_256 ⟨(Nat.le_of_ble_eq_true rfl), (Nat.le_of_ble_eq_true rfl)⟩ hK hP [9, 10, 11] rfl 9 rfl rfl hl.1 rfl (Nat.le_of_ble_eq_true rfl) dL_law_1925 ⟨(Nat.le_of_ble_eq_true rfl), (Nat.le_of_ble_eq_true rfl)⟩) hP hS (fun _ h => h) (fun H locs hP hS => ?_)
  refine lv_icmp_eq (tgt := 2158) hx hb dL_law_1928 (by decide) (fun _ => ?_) (fun c9 => absurd rfl c9)
  exact law_tail l C0 hS (lv_sub hl [0, 3] rfl) (Nat.le_of_ble_eq_true rfl) (Nat.le_of_ble_eq_true rfl)

set_option maxRecDepth 100000 in
set_option maxHeartbeats 8000000 in
theorem law_59 {p : Program} {e : Env} {s : State} {m : MethodId} {below : List Frame} {meth : Method} {c : Code} (l : Launch) {b : Nat} {xs : Nat → Int32} {G : va_G} {cs : Nat → ClassId} {h1 h2 : Nat} {q1 q2 : Nat → Nat} {H : Heap} {locs : List Loc} {ls : Array Slot} (C0 : lw_At p s m meth c b 6 xs) (hK : KK G (TY cs) s) (hP : va_P G vwCl (xW cs h1 q1 ++ mW cs h2 q2) H) (hD : va_D (fun q : Nat => s.heap.size ≤ q) (xW cs h1 q1 ++ mW cs h2 q2)) (hS : va_S (fun q : Nat => s.heap.size ≤ q) s.heap H locs) (hl : lv_has ls 4 [(3, .int 0), (2, .ref h2), (1, .ref h1), (0, .ref b)]) : W p l e room_1 s m #[Value.ref b] below meth c H locs 121 26756 (lw_Z below #[Value.ref b] s) (F0 m 33 ls [.int 59]) := by
  obtain ⟨hx, hb, hr, hml, hown, hts, hX, hbl, hlocks, hgv⟩ := id C0
  have hown : s.vm.findClass RL = some m.cls := hown
  have ht : ∀ w ∈ tb, w.before #[Value.ref b] s = true := fun w h => hts w (List.mem_filter.mp h).1
  have hbA : ¬ (fun q : Nat => s.heap.size ≤ q) b := Nat.not_le.mpr hbl
  have hP := hP.sub (ws' := [(xc0 cs h1 q1), (xc12 cs h1 q1), (xc13 cs h1 q1), (xc14 cs h1 q1), (xc15 cs h1 q1), (xc16 cs h1 q1), (xc17 cs h1 q1), (xc18 cs h1 q1), (xc19 cs h1 q1), (xc20 cs h1 q1), (xc21 cs h1 q1), (xc22 cs h1 q1), (xc23 cs h1 q1), (xc24 cs h1 q1), (xc25 cs h1 q1), (xc26 cs h1 q1), (xc27 cs h1 q1), (xc28 cs h1 q1), (xc29 cs h1 q1), (xc30 cs h1 q1), (xc31 cs h1 q1), (xc32 cs h1 q1), (xc33 cs h1 q1), (xc34 cs h1 q1), (xc35 cs h1 q1), (xc36 cs h1 q1), (xc37 cs h1 q1), (xc38 cs h1 q1), (xc39 cs h1 q1), (xc40 cs h1 q1), (xc41 cs h1 q1), (xc42 cs h1 q1), (xc43 cs h1 q1), (xc44 cs h1 q1), (xc45 cs h1 q1), (xc46 cs h1 q1), (xc47 cs h1 q1), (xc48 cs h1 q1), (xc49 cs h1 q1), (xc50 cs h1 q1), (xc51 cs h1 q1), (xc52 cs h1 q1), (mc0 cs h2 q2), (mc1 cs h2 q2), (mc2 cs h2 q2), (mc3 cs h2 q2)]) [0, 12, 13, 14, 15, 16, 17, 18, 19, 20, 21, 22, 23, 24, 25, 26, 27, 28, 29, 30, 31, 32, 33, 34, 35, 36, 37, 38, 39, 40, 41, 42, 43, 44, 45, 46, 47, 48, 49, 50, 51, 52, 64, 65, 66, 67] rfl
  have hD := hD.sub (ws' := [(xc0 cs h1 q1), (xc12 cs h1 q1), (xc13 cs h1 q1), (xc14 cs h1 q1), (xc15 cs h1 q1), (xc16 cs h1 q1), (xc17 cs h1 q1), (xc18 cs h1 q1), (xc19 cs h1 q1), (xc20 cs h1 q1), (xc21 cs h1 q1), (xc22 cs h1 q1), (xc23 cs h1 q1), (xc24 cs h1 q1), (xc25 cs h1 q1), (xc26 cs h1 q1), (xc27 cs h1 q1), (xc28 cs h1 q1), (xc29 cs h1 q1), (xc30 cs h1 q1), (xc31 cs h1 q1), (xc32 cs h1 q1), (xc33 cs h1 q1), (xc34 cs h1 q1), (xc35 cs h1 q1), (xc36 cs h1 q1), (xc37 cs h1 q1), (xc38 cs h1 q1), (xc39 cs h1 q1), (xc40 cs h1 q1), (xc41 cs h1 q1), (xc42 cs h1 q1), (xc43 cs h1 q1), (xc44 cs h1 q1), (xc45 cs h1 q1), (xc46 cs h1 q1), (xc47 cs h1 q1), (xc48 cs h1 q1), (xc49 cs h1 q1), (xc50 cs h1 q1), (xc51 cs h1 q1), (xc52 cs h1 q1), (mc0 cs h2 q2), (mc1 cs h2 q2), (mc2 cs h2 q2), (mc3 cs h2 q2)]) [0, 12, 13, 14, 15, 16, 17, 18, 19, 20, 21, 22, 23, 24, 25, 26, 27, 28, 29, 30, 31, 32, 33, 34, 35, 36, 37, 38, 39, 40, 41, 42, 43, 44, 45, 46, 47, 48, 49, 50, 51, 52, 64, 65, 66, 67] (by decide) rfl
  refine lv_tableIn (off := 1900) (tgt := 1933) hx hb dL_law_33 (by decide) (by decide) (by decide) (by decide) ?_
  refine lv_aload_n hx hb dL_law_1933 rfl (lv_at hl 2 rfl) ?_
  refine lv_aload_n hx hb dL_law_1934 rfl (lv_at hl 3 rfl) ?_
  refine lv_iload_n hx hb dL_law_1935 rfl (lv_at hl 0 rfl) ?_
  refine lv_iconst (v := 1) hx hb dL_law_1936 (by decide) ?_
  refine lv_iadd hx hb dL_law_1937 ?_
  refine lv_topi (fun v1 ev1 => ?_)
  obtain rfl : v1 = 1 := ev1.trans (by decide)
  refine va_sld hx hb hX hbl hbA hS (show ¬ (_ ∨ _) by decide) dL_law_1938 ?_
  refine W.eq (g2 := F0 m 1939 ls [.int (xs 1), .ref h1]) rfl ?_
  refine behDi (wr := [(mc0 cs h2 q2), (mc1 cs h2 q2), (mc2 cs h2 q2), (mc3 cs h2 q2)]) (runVD (As := [.int (xs 1)]) (rest := []) ⟨hx, hb, hml, hown, ht⟩ (dX10_image l G cs h1 q1 (xs 1)) okV_RL_257 ⟨(Nat.le_of_ble_eq_true rfl), (Nat.le_of_ble_eq_true rfl)⟩ hK hP hD [0, 1, 2, 3, 4, 5, 6, 7, 8, 9, 10, 11, 12, 13, 14, 15, 16, 17, 18, 19, 20, 21, 22, 23, 24, 25, 26, 27, 28, 29, 30, 31, 32, 33, 34, 35, 36, 37, 38, 39, 40, 41] rfl (by decide) rfl 0 rfl rfl hl.1 rfl (Nat.le_of_ble_eq_true rfl) dL_law_1939 ⟨(Nat.le_of_ble_eq_true rfl), (Nat.le_of_ble_eq_true rfl)⟩) hP hD hS (fun _ h => h) [0, 1, 2, 3, 4, 5, 6, 7, 8, 9, 10, 11, 12, 13, 14, 15, 16, 17, 18, 19, 20, 21, 22, 23, 24, 25, 26, 27, 28, 29, 30, 31, 32, 33, 34, 35, 36, 37, 38, 39, 40, 41] [42, 43, 44, 45] rfl rfl (by decide) (by decide) (fun r u H locs hr9 hP hD hS => ?_)
  have hP : va_P G vwCl [(mc0 cs h2 q2), (mc1 cs h2 q2), (mc2 cs h2 q2), (mc3 cs h2 q2)] H := hP
  have hD : va_D (fun q : Nat => s.heap.size ≤ q) [(mc0 cs h2 q2), (mc1 cs h2 q2), (mc2 cs h2 q2), (mc3 cs h2 q2)] := hD
  obtain rfl : r = (spk 3 (xs 1) 0 (-2)) := hr9
  refine lv_aload_n hx hb dL_law_1942 rfl (lv_at hl 1 rfl) ?_
  refine lv_aload_n hx hb dL_law_1943 rfl (lv_at hl 3 rfl) ?_
  refine lv_iload_n hx hb dL_law_1944 rfl (lv_at hl 0 rfl) ?_
  refine lv_iconst (v := 1) hx hb dL_law_1945 (by decide) ?_
  refine lv_iadd hx hb dL_law_1946 ?_
  refine lv_topi (fun v3 ev3 => ?_)
  obtain rfl : v3 = 1 := ev3.trans (by decide)
  refine va_sld hx hb hX hbl hbA hS (show ¬ (_ ∨ _) by decide) dL_law_1947 ?_
  refine W.eq (g2 := F0 m 1948 ls [.int (xs 1), .ref h2, .int (spk 3 (xs 1) 0 (-2))]) rfl ?_
  refine behDi (wr := []) (runVD (As := [.int (xs 1)]) (rest := [.int (spk 3 (xs 1) 0 (-2))]) ⟨hx, hb, hml, hown, ht⟩ (dX11_image l G cs h2 q2 (xs 1)) okV_RL_260 ⟨(Nat.le_of_ble_eq_true rfl), (Nat.le_of_ble_eq_true rfl)⟩ hK hP hD [0, 1, 2, 3] rfl (by decide) rfl 0 rfl rfl hl.1 rfl (Nat.le_of_ble_eq_true rfl) dL_law_1948 ⟨(Nat.le_of_ble_eq_true rfl), (Nat.le_of_ble_eq_true rfl)⟩) hP hD hS (fun _ h => h) [0, 1, 2, 3] [] rfl rfl (by decide) (by decide) (fun r u H locs hr9 hP hD hS => ?_)
  have hP : va_P G vwCl [] H := hP
  have hD : va_D (fun q : Nat => s.heap.size ≤ q) [] := hD
  obtain rfl : r = (spk 3 (xs 1) 0 (-2)) := hr9
  refine lv_icmp_eq (tgt := 2158) hx hb dL_law_1951 (by decide) (fun _ => ?_) (fun c9 => absurd rfl c9)
  exact law_tail l C0 hS (lv_sub hl [0, 3] rfl) (Nat.le_of_ble_eq_true rfl) (Nat.le_of_ble_eq_true rfl)

set_option maxRecDepth 100000 in
set_option maxHeartbeats 8000000 in
theorem law_60 {p : Program} {e : Env} {s : State} {m : MethodId} {below : List Frame} {meth : Method} {c : Code} (l : Launch) {b : Nat} {xs : Nat → Int32} {G : va_G} {cs : Nat → ClassId} {h1 h2 : Nat} {q1 q2 : Nat → Nat} {H : Heap} {locs : List Loc} {ls : Array Slot} (C0 : lw_At p s m meth c b 6 xs) (hK : KK G (TY cs) s) (hP : va_P G vwCl (xW cs h1 q1 ++ mW cs h2 q2) H) (hD : va_D (fun q : Nat => s.heap.size ≤ q) (xW cs h1 q1 ++ mW cs h2 q2)) (hS : va_S (fun q : Nat => s.heap.size ≤ q) s.heap H locs) (hl : lv_has ls 4 [(3, .int 0), (2, .ref h2), (1, .ref h1), (0, .ref b)]) : W p l e room_1 s m #[Value.ref b] below meth c H locs 121 26756 (lw_Z below #[Value.ref b] s) (F0 m 33 ls [.int 60]) := by
  obtain ⟨hx, hb, hr, hml, hown, hts, hX, hbl, hlocks, hgv⟩ := id C0
  have hown : s.vm.findClass RL = some m.cls := hown
  have ht : ∀ w ∈ tb, w.before #[Value.ref b] s = true := fun w h => hts w (List.mem_filter.mp h).1
  have hbA : ¬ (fun q : Nat => s.heap.size ≤ q) b := Nat.not_le.mpr hbl
  have hP := hP.sub (ws' := [(xc0 cs h1 q1), (xc22 cs h1 q1), (xc23 cs h1 q1), (xc33 cs h1 q1), (xc43 cs h1 q1), (mc0 cs h2 q2), (mc3 cs h2 q2)]) [0, 22, 23, 33, 43, 64, 67] rfl
  have hD := hD.sub (ws' := [(xc0 cs h1 q1), (xc22 cs h1 q1), (xc23 cs h1 q1), (xc33 cs h1 q1), (xc43 cs h1 q1), (mc0 cs h2 q2), (mc3 cs h2 q2)]) [0, 22, 23, 33, 43, 64, 67] (by decide) rfl
  refine lv_tableIn (off := 1923) (tgt := 1956) hx hb dL_law_33 (by decide) (by decide) (by decide) (by decide) ?_
  refine lv_aload_n hx hb dL_law_1956 rfl (lv_at hl 2 rfl) ?_
  refine lv_aload_n hx hb dL_law_1957 rfl (lv_at hl 3 rfl) ?_
  refine lv_iload_n hx hb dL_law_1958 rfl (lv_at hl 0 rfl) ?_
  refine lv_iconst (v := 1) hx hb dL_law_1959 (by decide) ?_
  refine lv_iadd hx hb dL_law_1960 ?_
  refine lv_topi (fun v1 ev1 => ?_)
  obtain rfl : v1 = 1 := ev1.trans (by decide)
  refine va_sld hx hb hX hbl hbA hS (show ¬ (_ ∨ _) by decide) dL_law_1961 ?_
  refine W.eq (g2 := F0 m 1962 ls [.int (xs 1), .ref h1]) rfl ?_
  refine behI (runVP (As := [.int (xs 1)]) (rest := []) ⟨hx, hb, hml, hown, ht⟩ (pX10_back l G cs h1 q1 (xs 1)) okV_RL_261 ⟨(Nat.le_of_ble_eq_true rfl), (Nat.le_of_ble_eq_true rfl)⟩ hK hP [0, 1, 2, 3, 4] rfl 0 rfl rfl hl.1 rfl (Nat.le_of_ble_eq_true rfl) dL_law_1962 ⟨(Nat.le_of_ble_eq_true rfl), (Nat.le_of_ble_eq_true rfl)⟩) hP hS (fun _ h => h) (fun H locs hP hS => ?_)
  refine lv_aload_n hx hb dL_law_1965 rfl (lv_at hl 1 rfl) ?_
  refine lv_aload_n hx hb dL_law_1966 rfl (lv_at hl 3 rfl) ?_
  refine lv_iload_n hx hb dL_law_1967 rfl (lv_at hl 0 rfl) ?_
  refine lv_iconst (v := 1) hx hb dL_law_1968 (by decide) ?_
  refine lv_iadd hx hb dL_law_1969 ?_
  refine lv_topi (fun v2 ev2 => ?_)
  obtain rfl : v2 = 1 := ev2.trans (by decide)
  refine va_sld hx hb hX hbl hbA hS (show ¬ (_ ∨ _) by decide) dL_law_1970 ?_
  refine W.eq (g2 := F0 m 1971 ls [.int (xs 1), .ref h2, .int (spk 3 (xs 1) (-6) (-2))]) rfl ?_
  refine behI (runVP (As := [.int (xs 1)]) (rest := [.int (spk 3 (xs 1) (-6) (-2))]) ⟨hx, hb, hml, hown, ht⟩ (pX11_back l G cs h2 q2 (xs 1)) okV_RL_264 ⟨(Nat.le_of_ble_eq_true rfl), (Nat.le_of_ble_eq_true rfl)⟩ hK hP [5, 6] rfl 5 rfl rfl hl.1 rfl (Nat.le_of_ble_eq_true rfl) dL_law_1971 ⟨(Nat.le_of_ble_eq_true rfl), (Nat.le_of_ble_eq_true rfl)⟩) hP hS (fun _ h => h) (fun H locs hP hS => ?_)
  refine lv_icmp_eq (tgt := 2158) hx hb dL_law_1974 (by decide) (fun _ => ?_) (fun c9 => absurd rfl c9)
  exact law_tail l C0 hS (lv_sub hl [0, 3] rfl) (Nat.le_of_ble_eq_true rfl) (Nat.le_of_ble_eq_true rfl)

set_option maxRecDepth 100000 in
set_option maxHeartbeats 8000000 in
theorem law_61 {p : Program} {e : Env} {s : State} {m : MethodId} {below : List Frame} {meth : Method} {c : Code} (l : Launch) {b : Nat} {xs : Nat → Int32} {G : va_G} {cs : Nat → ClassId} {h1 h2 : Nat} {q1 q2 : Nat → Nat} {H : Heap} {locs : List Loc} {ls : Array Slot} (C0 : lw_At p s m meth c b 6 xs) (hK : KK G (TY cs) s) (hP : va_P G vwCl (xW cs h1 q1 ++ mW cs h2 q2) H) (hD : va_D (fun q : Nat => s.heap.size ≤ q) (xW cs h1 q1 ++ mW cs h2 q2)) (hS : va_S (fun q : Nat => s.heap.size ≤ q) s.heap H locs) (hl : lv_has ls 4 [(3, .int 0), (2, .ref h2), (1, .ref h1), (0, .ref b)]) : W p l e room_1 s m #[Value.ref b] below meth c H locs 121 26756 (lw_Z below #[Value.ref b] s) (F0 m 33 ls [.int 61]) := by
  obtain ⟨hx, hb, hr, hml, hown, hts, hX, hbl, hlocks, hgv⟩ := id C0
  have hown : s.vm.findClass RL = some m.cls := hown
  have ht : ∀ w ∈ tb, w.before #[Value.ref b] s = true := fun w h => hts w (List.mem_filter.mp h).1
  have hbA : ¬ (fun q : Nat => s.heap.size ≤ q) b := Nat.not_le.mpr hbl
  have hP := hP.sub (ws' := [(xc0 cs h1 q1), (xc53 cs h1 q1), (xc54 cs h1 q1), (xc55 cs h1 q1), (xc56 cs h1 q1), (xc57 cs h1 q1), (xc58 cs h1 q1), (xc59 cs h1 q1), (xc60 cs h1 q1), (xc61 cs h1 q1), (mc0 cs h2 q2), (mc31 cs h2 q2), (mc32 cs h2 q2), (mc33 cs h2 q2)]) [0, 53, 54, 55, 56, 57, 58, 59, 60, 61, 64, 71, 72, 73] rfl
  have hD := hD.sub (ws' := [(xc0 cs h1 q1), (xc53 cs h1 q1), (xc54 cs h1 q1), (xc55 cs h1 q1), (xc56 cs h1 q1), (xc57 cs h1 q1), (xc58 cs h1 q1), (xc59 cs h1 q1), (xc60 cs h1 q1), (xc61 cs h1 q1), (mc0 cs h2 q2), (mc31 cs h2 q2), (mc32 cs h2 q2), (mc33 cs h2 q2)]) [0, 53, 54, 55, 56, 57, 58, 59, 60, 61, 64, 71, 72, 73] (by decide) rfl
  refine lv_tableIn (off := 1946) (tgt := 1979) hx hb dL_law_33 (by decide) (by decide) (by decide) (by decide) ?_
  refine lv_aload_n hx hb dL_law_1979 rfl (lv_at hl 2 rfl) ?_
  refine lv_aload_n hx hb dL_law_1980 rfl (lv_at hl 3 rfl) ?_
  refine lv_iload_n hx hb dL_law_1981 rfl (lv_at hl 0 rfl) ?_
  refine lv_iconst (v := 1) hx hb dL_law_1982 (by decide) ?_
  refine lv_iadd hx hb dL_law_1983 ?_
  refine lv_topi (fun v1 ev1 => ?_)
  obtain rfl : v1 = 1 := ev1.trans (by decide)
  refine va_sld hx hb hX hbl hbA hS (show ¬ (_ ∨ _) by decide) dL_law_1984 ?_
  refine W.eq (g2 := F0 m 1985 ls [.int (xs 1), .ref h1]) rfl ?_
  refine lv_aload_n hx hb dL_law_1985 rfl (lv_at hl 3 rfl) ?_
  refine lv_iload_n hx hb dL_law_1986 rfl (lv_at hl 0 rfl) ?_
  refine lv_iconst (v := 2) hx hb dL_law_1987 (by decide) ?_
  refine lv_iadd hx hb dL_law_1988 ?_
  refine lv_topi (fun v2 ev2 => ?_)
  obtain rfl : v2 = 2 := ev2.trans (by decide)
  refine va_sld hx hb hX hbl hbA hS (show ¬ (_ ∨ _) by decide) dL_law_1989 ?_
  refine W.eq (g2 := F0 m 1990 ls [.int (xs 2), .int (xs 1), .ref h1]) rfl ?_
  refine lv_aload_n hx hb dL_law_1990 rfl (lv_at hl 3 rfl) ?_
  refine lv_iload_n hx hb dL_law_1991 rfl (lv_at hl 0 rfl) ?_
  refine lv_iconst (v := 3) hx hb dL_law_1992 (by decide) ?_
  refine lv_iadd hx hb dL_law_1993 ?_
  refine lv_topi (fun v3 ev3 => ?_)
  obtain rfl : v3 = 3 := ev3.trans (by decide)
  refine va_sld hx hb hX hbl hbA hS (show ¬ (_ ∨ _) by decide) dL_law_1994 ?_
  refine W.eq (g2 := F0 m 1995 ls [.int (xs 3), .int (xs 2), .int (xs 1), .ref h1]) rfl ?_
  refine behDi (wr := [(mc0 cs h2 q2), (mc31 cs h2 q2), (mc32 cs h2 q2), (mc33 cs h2 q2)]) (runVD (As := [.int (xs 1), .int (xs 2), .int (xs 3)]) (rest := []) ⟨hx, hb, hml, hown, ht⟩ (dX10_row l G cs h1 q1 (xs 1) (xs 2) (xs 3)) okV_RL_265 ⟨(Nat.le_of_ble_eq_true rfl), (Nat.le_of_ble_eq_true rfl)⟩ hK hP hD [0, 1, 2, 3, 4, 5, 6, 7, 8, 9] rfl (by decide) rfl 0 rfl rfl hl.1 rfl (Nat.le_of_ble_eq_true rfl) dL_law_1995 ⟨(Nat.le_of_ble_eq_true rfl), (Nat.le_of_ble_eq_true rfl)⟩) hP hD hS (fun _ h => h) [0, 1, 2, 3, 4, 5, 6, 7, 8, 9] [10, 11, 12, 13] rfl rfl (by decide) (by decide) (fun r u H locs hr9 hP hD hS => ?_)
  have hP : va_P G vwCl [(mc0 cs h2 q2), (mc31 cs h2 q2), (mc32 cs h2 q2), (mc33 cs h2 q2)] H := hP
  have hD : va_D (fun q : Nat => s.heap.size ≤ q) [(mc0 cs h2 q2), (mc31 cs h2 q2), (mc32 cs h2 q2), (mc33 cs h2 q2)] := hD
  obtain rfl : r = (spk 4 (xs 1) (spr (xs 2) (xs 3)) (-2)) := hr9
  refine lv_aload_n hx hb dL_law_1998 rfl (lv_at hl 1 rfl) ?_
  refine lv_aload_n hx hb dL_law_1999 rfl (lv_at hl 3 rfl) ?_
  refine lv_iload_n hx hb dL_law_2000 rfl (lv_at hl 0 rfl) ?_
  refine lv_iconst (v := 1) hx hb dL_law_2001 (by decide) ?_
  refine lv_iadd hx hb dL_law_2002 ?_
  refine lv_topi (fun v5 ev5 => ?_)
  obtain rfl : v5 = 1 := ev5.trans (by decide)
  refine va_sld hx hb hX hbl hbA hS (show ¬ (_ ∨ _) by decide) dL_law_2003 ?_
  refine W.eq (g2 := F0 m 2004 ls [.int (xs 1), .ref h2, .int (spk 4 (xs 1) (spr (xs 2) (xs 3)) (-2))]) rfl ?_
  refine lv_aload_n hx hb dL_law_2004 rfl (lv_at hl 3 rfl) ?_
  refine lv_iload_n hx hb dL_law_2005 rfl (lv_at hl 0 rfl) ?_
  refine lv_iconst (v := 2) hx hb dL_law_2006 (by decide) ?_
  refine lv_iadd hx hb dL_law_2007 ?_
  refine lv_topi (fun v6 ev6 => ?_)
  obtain rfl : v6 = 2 := ev6.trans (by decide)
  refine va_sld hx hb hX hbl hbA hS (show ¬ (_ ∨ _) by decide) dL_law_2008 ?_
  refine W.eq (g2 := F0 m 2009 ls [.int (xs 2), .int (xs 1), .ref h2, .int (spk 4 (xs 1) (spr (xs 2) (xs 3)) (-2))]) rfl ?_
  refine lv_aload_n hx hb dL_law_2009 rfl (lv_at hl 3 rfl) ?_
  refine lv_iload_n hx hb dL_law_2010 rfl (lv_at hl 0 rfl) ?_
  refine lv_iconst (v := 3) hx hb dL_law_2011 (by decide) ?_
  refine lv_iadd hx hb dL_law_2012 ?_
  refine lv_topi (fun v7 ev7 => ?_)
  obtain rfl : v7 = 3 := ev7.trans (by decide)
  refine va_sld hx hb hX hbl hbA hS (show ¬ (_ ∨ _) by decide) dL_law_2013 ?_
  refine W.eq (g2 := F0 m 2014 ls [.int (xs 3), .int (xs 2), .int (xs 1), .ref h2, .int (spk 4 (xs 1) (spr (xs 2) (xs 3)) (-2))]) rfl ?_
  refine behDi (wr := []) (runVD (As := [.int (xs 1), .int (xs 2), .int (xs 3)]) (rest := [.int (spk 4 (xs 1) (spr (xs 2) (xs 3)) (-2))]) ⟨hx, hb, hml, hown, ht⟩ (dX11_row l G cs h2 q2 (xs 1) (xs 2) (xs 3)) okV_RL_268 ⟨(Nat.le_of_ble_eq_true rfl), (Nat.le_of_ble_eq_true rfl)⟩ hK hP hD [0, 1, 2, 3] rfl (by decide) rfl 0 rfl rfl hl.1 rfl (Nat.le_of_ble_eq_true rfl) dL_law_2014 ⟨(Nat.le_of_ble_eq_true rfl), (Nat.le_of_ble_eq_true rfl)⟩) hP hD hS (fun _ h => h) [0, 1, 2, 3] [] rfl rfl (by decide) (by decide) (fun r u H locs hr9 hP hD hS => ?_)
  have hP : va_P G vwCl [] H := hP
  have hD : va_D (fun q : Nat => s.heap.size ≤ q) [] := hD
  obtain rfl : r = (spk 4 (xs 1) (spr (xs 2) (xs 3)) (-2)) := hr9
  refine lv_icmp_eq (tgt := 2158) hx hb dL_law_2017 (by decide) (fun _ => ?_) (fun c9 => absurd rfl c9)
  exact law_tail l C0 hS (lv_sub hl [0, 3] rfl) (Nat.le_of_ble_eq_true rfl) (Nat.le_of_ble_eq_true rfl)

set_option maxRecDepth 100000 in
set_option maxHeartbeats 8000000 in
theorem law_62 {p : Program} {e : Env} {s : State} {m : MethodId} {below : List Frame} {meth : Method} {c : Code} (l : Launch) {b : Nat} {xs : Nat → Int32} {G : va_G} {cs : Nat → ClassId} {h1 h2 : Nat} {q1 q2 : Nat → Nat} {H : Heap} {locs : List Loc} {ls : Array Slot} (C0 : lw_At p s m meth c b 6 xs) (hK : KK G (TY cs) s) (hP : va_P G vwCl (xW cs h1 q1 ++ mW cs h2 q2) H) (hD : va_D (fun q : Nat => s.heap.size ≤ q) (xW cs h1 q1 ++ mW cs h2 q2)) (hS : va_S (fun q : Nat => s.heap.size ≤ q) s.heap H locs) (hl : lv_has ls 4 [(3, .int 0), (2, .ref h2), (1, .ref h1), (0, .ref b)]) : W p l e room_1 s m #[Value.ref b] below meth c H locs 121 26756 (lw_Z below #[Value.ref b] s) (F0 m 33 ls [.int 62]) := by
  obtain ⟨hx, hb, hr, hml, hown, hts, hX, hbl, hlocks, hgv⟩ := id C0
  have hown : s.vm.findClass RL = some m.cls := hown
  have ht : ∀ w ∈ tb, w.before #[Value.ref b] s = true := fun w h => hts w (List.mem_filter.mp h).1
  have hbA : ¬ (fun q : Nat => s.heap.size ≤ q) b := Nat.not_le.mpr hbl
  have hP := hP.sub (ws' := [(xc0 cs h1 q1), (xc53 cs h1 q1), (xc54 cs h1 q1), (xc56 cs h1 q1), (xc58 cs h1 q1), (xc60 cs h1 q1), (mc0 cs h2 q2), (mc31 cs h2 q2)]) [0, 53, 54, 56, 58, 60, 64, 71] rfl
  have hD := hD.sub (ws' := [(xc0 cs h1 q1), (xc53 cs h1 q1), (xc54 cs h1 q1), (xc56 cs h1 q1), (xc58 cs h1 q1), (xc60 cs h1 q1), (mc0 cs h2 q2), (mc31 cs h2 q2)]) [0, 53, 54, 56, 58, 60, 64, 71] (by decide) rfl
  refine lv_tableIn (off := 1989) (tgt := 2022) hx hb dL_law_33 (by decide) (by decide) (by decide) (by decide) ?_
  refine lv_aload_n hx hb dL_law_2022 rfl (lv_at hl 2 rfl) ?_
  refine lv_aload_n hx hb dL_law_2023 rfl (lv_at hl 3 rfl) ?_
  refine lv_iload_n hx hb dL_law_2024 rfl (lv_at hl 0 rfl) ?_
  refine lv_iconst (v := 1) hx hb dL_law_2025 (by decide) ?_
  refine lv_iadd hx hb dL_law_2026 ?_
  refine lv_topi (fun v1 ev1 => ?_)
  obtain rfl : v1 = 1 := ev1.trans (by decide)
  refine va_sld hx hb hX hbl hbA hS (show ¬ (_ ∨ _) by decide) dL_law_2027 ?_
  refine W.eq (g2 := F0 m 2028 ls [.int (xs 1), .ref h1]) rfl ?_
  refine lv_aload_n hx hb dL_law_2028 rfl (lv_at hl 3 rfl) ?_
  refine lv_iload_n hx hb dL_law_2029 rfl (lv_at hl 0 rfl) ?_
  refine lv_iconst (v := 2) hx hb dL_law_2030 (by decide) ?_
  refine lv_iadd hx hb dL_law_2031 ?_
  refine lv_topi (fun v2 ev2 => ?_)
  obtain rfl : v2 = 2 := ev2.trans (by decide)
  refine va_sld hx hb hX hbl hbA hS (show ¬ (_ ∨ _) by decide) dL_law_2032 ?_
  refine W.eq (g2 := F0 m 2033 ls [.int (xs 2), .int (xs 1), .ref h1]) rfl ?_
  refine lv_aload_n hx hb dL_law_2033 rfl (lv_at hl 3 rfl) ?_
  refine lv_iload_n hx hb dL_law_2034 rfl (lv_at hl 0 rfl) ?_
  refine lv_iconst (v := 3) hx hb dL_law_2035 (by decide) ?_
  refine lv_iadd hx hb dL_law_2036 ?_
  refine lv_topi (fun v3 ev3 => ?_)
  obtain rfl : v3 = 3 := ev3.trans (by decide)
  refine va_sld hx hb hX hbl hbA hS (show ¬ (_ ∨ _) by decide) dL_law_2037 ?_
  refine W.eq (g2 := F0 m 2038 ls [.int (xs 3), .int (xs 2), .int (xs 1), .ref h1]) rfl ?_
  refine lv_i2l hx hb dL_law_2038 rfl ?_
  refine lv_bipush (v := 32) hx hb dL_law_2039 (by decide) ?_
  refine lv_lshl hx hb dL_law_2041 rfl ?_
  refine lv_topl (fun w4 ew4 => ?_)
  refine lv_aload_n hx hb dL_law_2042 rfl (lv_at hl 3 rfl) ?_
  refine lv_iload_n hx hb dL_law_2043 rfl (lv_at hl 0 rfl) ?_
  refine lv_iconst (v := 4) hx hb dL_law_2044 (by decide) ?_
  refine lv_iadd hx hb dL_law_2045 ?_
  refine lv_topi (fun v5 ev5 => ?_)
  obtain rfl : v5 = 4 := ev5.trans (by decide)
  refine va_sld hx hb hX hbl hbA hS (show ¬ (_ ∨ _) by decide) dL_law_2046 ?_
  refine W.eq (g2 := F0 m 2047 ls [.int (xs 4), .long w4, .int (xs 2), .int (xs 1), .ref h1]) rfl ?_
  refine lv_i2l hx hb dL_law_2047 rfl ?_
  refine lv_ldc2 hx hb hown (ht _ kl_RL_269) dL_law_2048 ?_
  refine lv_land hx hb dL_law_2051 ?_
  refine lv_topl (fun w6 ew6 => ?_)
  refine lv_lor hx hb dL_law_2052 ?_
  refine lv_topl (fun w7 ew7 => ?_)
  refine behI (runVP (As := [.int (xs 1), .int (xs 2), .long w7]) (rest := []) ⟨hx, hb, hml, hown, ht⟩ (pX10_write l G cs h1 q1 (xs 1) (xs 2) w7) okV_RL_271 ⟨(Nat.le_of_ble_eq_true rfl), (Nat.le_of_ble_eq_true rfl)⟩ hK hP [0, 1, 2, 3, 4, 5] rfl 0 rfl rfl hl.1 rfl (Nat.le_of_ble_eq_true rfl) dL_law_2053 ⟨(Nat.le_of_ble_eq_true rfl), (Nat.le_of_ble_eq_true rfl)⟩) hP hS (fun _ h => h) (fun H locs hP hS => ?_)
  refine lv_aload_n hx hb dL_law_2056 rfl (lv_at hl 1 rfl) ?_
  refine lv_aload_n hx hb dL_law_2057 rfl (lv_at hl 3 rfl) ?_
  refine lv_iload_n hx hb dL_law_2058 rfl (lv_at hl 0 rfl) ?_
  refine lv_iconst (v := 1) hx hb dL_law_2059 (by decide) ?_
  refine lv_iadd hx hb dL_law_2060 ?_
  refine lv_topi (fun v8 ev8 => ?_)
  obtain rfl : v8 = 1 := ev8.trans (by decide)
  refine va_sld hx hb hX hbl hbA hS (show ¬ (_ ∨ _) by decide) dL_law_2061 ?_
  refine W.eq (g2 := F0 m 2062 ls [.int (xs 1), .ref h2, .int (spk 4 (xs 1) (-6) (-2))]) rfl ?_
  refine lv_aload_n hx hb dL_law_2062 rfl (lv_at hl 3 rfl) ?_
  refine lv_iload_n hx hb dL_law_2063 rfl (lv_at hl 0 rfl) ?_
  refine lv_iconst (v := 2) hx hb dL_law_2064 (by decide) ?_
  refine lv_iadd hx hb dL_law_2065 ?_
  refine lv_topi (fun v9 ev9 => ?_)
  obtain rfl : v9 = 2 := ev9.trans (by decide)
  refine va_sld hx hb hX hbl hbA hS (show ¬ (_ ∨ _) by decide) dL_law_2066 ?_
  refine W.eq (g2 := F0 m 2067 ls [.int (xs 2), .int (xs 1), .ref h2, .int (spk 4 (xs 1) (-6) (-2))]) rfl ?_
  refine lv_aload_n hx hb dL_law_2067 rfl (lv_at hl 3 rfl) ?_
  refine lv_iload_n hx hb dL_law_2068 rfl (lv_at hl 0 rfl) ?_
  refine lv_iconst (v := 3) hx hb dL_law_2069 (by decide) ?_
  refine lv_iadd hx hb dL_law_2070 ?_
  refine lv_topi (fun v10 ev10 => ?_)
  obtain rfl : v10 = 3 := ev10.trans (by decide)
  refine va_sld hx hb hX hbl hbA hS (show ¬ (_ ∨ _) by decide) dL_law_2071 ?_
  refine W.eq (g2 := F0 m 2072 ls [.int (xs 3), .int (xs 2), .int (xs 1), .ref h2, .int (spk 4 (xs 1) (-6) (-2))]) rfl ?_
  refine lv_i2l hx hb dL_law_2072 rfl ?_
  refine lv_bipush (v := 32) hx hb dL_law_2073 (by decide) ?_
  refine lv_lshl hx hb dL_law_2075 rfl ?_
  refine lv_topl (fun w11 ew11 => ?_)
  refine lv_aload_n hx hb dL_law_2076 rfl (lv_at hl 3 rfl) ?_
  refine lv_iload_n hx hb dL_law_2077 rfl (lv_at hl 0 rfl) ?_
  refine lv_iconst (v := 4) hx hb dL_law_2078 (by decide) ?_
  refine lv_iadd hx hb dL_law_2079 ?_
  refine lv_topi (fun v12 ev12 => ?_)
  obtain rfl : v12 = 4 := ev12.trans (by decide)
  refine va_sld hx hb hX hbl hbA hS (show ¬ (_ ∨ _) by decide) dL_law_2080 ?_
  refine W.eq (g2 := F0 m 2081 ls [.int (xs 4), .long w11, .int (xs 2), .int (xs 1), .ref h2, .int (spk 4 (xs 1) (-6) (-2))]) rfl ?_
  refine lv_i2l hx hb dL_law_2081 rfl ?_
  refine lv_ldc2 hx hb hown (ht _ kl_RL_269) dL_law_2082 ?_
  refine lv_land hx hb dL_law_2085 ?_
  refine lv_topl (fun w13 ew13 => ?_)
  refine lv_lor hx hb dL_law_2086 ?_
  refine lv_topl (fun w14 ew14 => ?_)
  refine behI (runVP (As := [.int (xs 1), .int (xs 2), .long w14]) (rest := [.int (spk 4 (xs 1) (-6) (-2))]) ⟨hx, hb, hml, hown, ht⟩ (pX11_write l G cs h2 q2 (xs 1) (xs 2) w14) okV_RL_275 ⟨(Nat.le_of_ble_eq_true rfl), (Nat.le_of_ble_eq_true rfl)⟩ hK hP [6, 7] rfl 6 rfl rfl hl.1 rfl (Nat.le_of_ble_eq_true rfl) dL_law_2087 ⟨(Nat.le_of_ble_eq_true rfl), (Nat.le_of_ble_eq_true rfl)⟩) hP hS (fun _ h => h) (fun H locs hP hS => ?_)
  refine lv_icmp_eq (tgt := 2158) hx hb dL_law_2090 (by decide) (fun _ => ?_) (fun c9 => absurd rfl c9)
  exact law_tail l C0 hS (lv_sub hl [0, 3] rfl) (Nat.le_of_ble_eq_true rfl) (Nat.le_of_ble_eq_true rfl)

set_option maxRecDepth 100000 in
set_option maxHeartbeats 8000000 in
theorem law_63 {p : Program} {e : Env} {s : State} {m : MethodId} {below : List Frame} {meth : Method} {c : Code} (l : Launch) {b : Nat} {xs : Nat → Int32} {G : va_G} {cs : Nat → ClassId} {h1 h2 : Nat} {q1 q2 : Nat → Nat} {H : Heap} {locs : List Loc} {ls : Array Slot} (C0 : lw_At p s m meth c b 6 xs) (hK : KK G (TY cs) s) (hP : va_P G vwCl (xW cs h1 q1 ++ mW cs h2 q2) H) (hD : va_D (fun q : Nat => s.heap.size ≤ q) (xW cs h1 q1 ++ mW cs h2 q2)) (hS : va_S (fun q : Nat => s.heap.size ≤ q) s.heap H locs) (hl : lv_has ls 4 [(3, .int 0), (2, .ref h2), (1, .ref h1), (0, .ref b)]) : W p l e room_1 s m #[Value.ref b] below meth c H locs 121 26756 (lw_Z below #[Value.ref b] s) (F0 m 33 ls [.int 63]) := by
  obtain ⟨hx, hb, hr, hml, hown, hts, hX, hbl, hlocks, hgv⟩ := id C0
  have hown : s.vm.findClass RL = some m.cls := hown
  have ht : ∀ w ∈ tb, w.before #[Value.ref b] s = true := fun w h => hts w (List.mem_filter.mp h).1
  have hbA : ¬ (fun q : Nat => s.heap.size ≤ q) b := Nat.not_le.mpr hbl
  have hP := hP.sub (ws' := [(xc0 cs h1 q1), (xc53 cs h1 q1), (xc54 cs h1 q1), (xc56 cs h1 q1), (xc58 cs h1 q1), (xc60 cs h1 q1), (mc0 cs h2 q2), (mc31 cs h2 q2)]) [0, 53, 54, 56, 58, 60, 64, 71] rfl
  have hD := hD.sub (ws' := [(xc0 cs h1 q1), (xc53 cs h1 q1), (xc54 cs h1 q1), (xc56 cs h1 q1), (xc58 cs h1 q1), (xc60 cs h1 q1), (mc0 cs h2 q2), (mc31 cs h2 q2)]) [0, 53, 54, 56, 58, 60, 64, 71] (by decide) rfl
  refine lv_tableIn (off := 2062) (tgt := 2095) hx hb dL_law_33 (by decide) (by decide) (by decide) (by decide) ?_
  refine lv_aload_n hx hb dL_law_2095 rfl (lv_at hl 2 rfl) ?_
  refine lv_aload_n hx hb dL_law_2096 rfl (lv_at hl 3 rfl) ?_
  refine lv_iload_n hx hb dL_law_2097 rfl (lv_at hl 0 rfl) ?_
  refine lv_iconst (v := 1) hx hb dL_law_2098 (by decide) ?_
  refine lv_iadd hx hb dL_law_2099 ?_
  refine lv_topi (fun v1 ev1 => ?_)
  obtain rfl : v1 = 1 := ev1.trans (by decide)
  refine va_sld hx hb hX hbl hbA hS (show ¬ (_ ∨ _) by decide) dL_law_2100 ?_
  refine W.eq (g2 := F0 m 2101 ls [.int (xs 1), .ref h1]) rfl ?_
  refine lv_aload_n hx hb dL_law_2101 rfl (lv_at hl 3 rfl) ?_
  refine lv_iload_n hx hb dL_law_2102 rfl (lv_at hl 0 rfl) ?_
  refine lv_iconst (v := 2) hx hb dL_law_2103 (by decide) ?_
  refine lv_iadd hx hb dL_law_2104 ?_
  refine lv_topi (fun v2 ev2 => ?_)
  obtain rfl : v2 = 2 := ev2.trans (by decide)
  refine va_sld hx hb hX hbl hbA hS (show ¬ (_ ∨ _) by decide) dL_law_2105 ?_
  refine W.eq (g2 := F0 m 2106 ls [.int (xs 2), .int (xs 1), .ref h1]) rfl ?_
  refine lv_aload_n hx hb dL_law_2106 rfl (lv_at hl 3 rfl) ?_
  refine lv_iload_n hx hb dL_law_2107 rfl (lv_at hl 0 rfl) ?_
  refine lv_iconst (v := 3) hx hb dL_law_2108 (by decide) ?_
  refine lv_iadd hx hb dL_law_2109 ?_
  refine lv_topi (fun v3 ev3 => ?_)
  obtain rfl : v3 = 3 := ev3.trans (by decide)
  refine va_sld hx hb hX hbl hbA hS (show ¬ (_ ∨ _) by decide) dL_law_2110 ?_
  refine W.eq (g2 := F0 m 2111 ls [.int (xs 3), .int (xs 2), .int (xs 1), .ref h1]) rfl ?_
  refine lv_aload_n hx hb dL_law_2111 rfl (lv_at hl 3 rfl) ?_
  refine lv_iload_n hx hb dL_law_2112 rfl (lv_at hl 0 rfl) ?_
  refine lv_iconst (v := 4) hx hb dL_law_2113 (by decide) ?_
  refine lv_iadd hx hb dL_law_2114 ?_
  refine lv_topi (fun v4 ev4 => ?_)
  obtain rfl : v4 = 4 := ev4.trans (by decide)
  refine va_sld hx hb hX hbl hbA hS (show ¬ (_ ∨ _) by decide) dL_law_2115 ?_
  refine W.eq (g2 := F0 m 2116 ls [.int (xs 4), .int (xs 3), .int (xs 2), .int (xs 1), .ref h1]) rfl ?_
  refine lv_aload_n hx hb dL_law_2116 rfl (lv_at hl 3 rfl) ?_
  refine lv_iload_n hx hb dL_law_2117 rfl (lv_at hl 0 rfl) ?_
  refine lv_iconst (v := 5) hx hb dL_law_2118 (by decide) ?_
  refine lv_iadd hx hb dL_law_2119 ?_
  refine lv_topi (fun v5 ev5 => ?_)
  obtain rfl : v5 = 5 := ev5.trans (by decide)
  refine va_sld hx hb hX hbl hbA hS (show ¬ (_ ∨ _) by decide) dL_law_2120 ?_
  refine W.eq (g2 := F0 m 2121 ls [.int (xs 5), .int (xs 4), .int (xs 3), .int (xs 2), .int (xs 1), .ref h1]) rfl ?_
  refine behI (runVP (As := [.int (xs 1), .int (xs 2), .int (xs 3), .int (xs 4), .int (xs 5)]) (rest := []) ⟨hx, hb, hml, hown, ht⟩ (pX10_paste l G cs h1 q1 (xs 1) (xs 2) (xs 3) (xs 4) (xs 5)) okV_RL_276 ⟨(Nat.le_of_ble_eq_true rfl), (Nat.le_of_ble_eq_true rfl)⟩ hK hP [0, 1, 2, 3, 4, 5] rfl 0 rfl rfl hl.1 rfl (Nat.le_of_ble_eq_true rfl) dL_law_2121 ⟨(Nat.le_of_ble_eq_true rfl), (Nat.le_of_ble_eq_true rfl)⟩) hP hS (fun _ h => h) (fun H locs hP hS => ?_)
  refine lv_aload_n hx hb dL_law_2124 rfl (lv_at hl 1 rfl) ?_
  refine lv_aload_n hx hb dL_law_2125 rfl (lv_at hl 3 rfl) ?_
  refine lv_iload_n hx hb dL_law_2126 rfl (lv_at hl 0 rfl) ?_
  refine lv_iconst (v := 1) hx hb dL_law_2127 (by decide) ?_
  refine lv_iadd hx hb dL_law_2128 ?_
  refine lv_topi (fun v6 ev6 => ?_)
  obtain rfl : v6 = 1 := ev6.trans (by decide)
  refine va_sld hx hb hX hbl hbA hS (show ¬ (_ ∨ _) by decide) dL_law_2129 ?_
  refine W.eq (g2 := F0 m 2130 ls [.int (xs 1), .ref h2, .int (spk 4 (xs 1) (spk 4 (xs 3) (-6) (-2)) (-2))]) rfl ?_
  refine lv_aload_n hx hb dL_law_2130 rfl (lv_at hl 3 rfl) ?_
  refine lv_iload_n hx hb dL_law_2131 rfl (lv_at hl 0 rfl) ?_
  refine lv_iconst (v := 2) hx hb dL_law_2132 (by decide) ?_
  refine lv_iadd hx hb dL_law_2133 ?_
  refine lv_topi (fun v7 ev7 => ?_)
  obtain rfl : v7 = 2 := ev7.trans (by decide)
  refine va_sld hx hb hX hbl hbA hS (show ¬ (_ ∨ _) by decide) dL_law_2134 ?_
  refine W.eq (g2 := F0 m 2135 ls [.int (xs 2), .int (xs 1), .ref h2, .int (spk 4 (xs 1) (spk 4 (xs 3) (-6) (-2)) (-2))]) rfl ?_
  refine lv_aload_n hx hb dL_law_2135 rfl (lv_at hl 3 rfl) ?_
  refine lv_iload_n hx hb dL_law_2136 rfl (lv_at hl 0 rfl) ?_
  refine lv_iconst (v := 3) hx hb dL_law_2137 (by decide) ?_
  refine lv_iadd hx hb dL_law_2138 ?_
  refine lv_topi (fun v8 ev8 => ?_)
  obtain rfl : v8 = 3 := ev8.trans (by decide)
  refine va_sld hx hb hX hbl hbA hS (show ¬ (_ ∨ _) by decide) dL_law_2139 ?_
  refine W.eq (g2 := F0 m 2140 ls [.int (xs 3), .int (xs 2), .int (xs 1), .ref h2, .int (spk 4 (xs 1) (spk 4 (xs 3) (-6) (-2)) (-2))]) rfl ?_
  refine lv_aload_n hx hb dL_law_2140 rfl (lv_at hl 3 rfl) ?_
  refine lv_iload_n hx hb dL_law_2141 rfl (lv_at hl 0 rfl) ?_
  refine lv_iconst (v := 4) hx hb dL_law_2142 (by decide) ?_
  refine lv_iadd hx hb dL_law_2143 ?_
  refine lv_topi (fun v9 ev9 => ?_)
  obtain rfl : v9 = 4 := ev9.trans (by decide)
  refine va_sld hx hb hX hbl hbA hS (show ¬ (_ ∨ _) by decide) dL_law_2144 ?_
  refine W.eq (g2 := F0 m 2145 ls [.int (xs 4), .int (xs 3), .int (xs 2), .int (xs 1), .ref h2, .int (spk 4 (xs 1) (spk 4 (xs 3) (-6) (-2)) (-2))]) rfl ?_
  refine lv_aload_n hx hb dL_law_2145 rfl (lv_at hl 3 rfl) ?_
  refine lv_iload_n hx hb dL_law_2146 rfl (lv_at hl 0 rfl) ?_
  refine lv_iconst (v := 5) hx hb dL_law_2147 (by decide) ?_
  refine lv_iadd hx hb dL_law_2148 ?_
  refine lv_topi (fun v10 ev10 => ?_)
  obtain rfl : v10 = 5 := ev10.trans (by decide)
  refine va_sld hx hb hX hbl hbA hS (show ¬ (_ ∨ _) by decide) dL_law_2149 ?_
  refine W.eq (g2 := F0 m 2150 ls [.int (xs 5), .int (xs 4), .int (xs 3), .int (xs 2), .int (xs 1), .ref h2, .int (spk 4 (xs 1) (spk 4 (xs 3) (-6) (-2)) (-2))]) rfl ?_
  refine behI (runVP (As := [.int (xs 1), .int (xs 2), .int (xs 3), .int (xs 4), .int (xs 5)]) (rest := [.int (spk 4 (xs 1) (spk 4 (xs 3) (-6) (-2)) (-2))]) ⟨hx, hb, hml, hown, ht⟩ (pX11_paste l G cs h2 q2 (xs 1) (xs 2) (xs 3) (xs 4) (xs 5)) okV_RL_279 ⟨(Nat.le_of_ble_eq_true rfl), (Nat.le_of_ble_eq_true rfl)⟩ hK hP [6, 7] rfl 6 rfl rfl hl.1 rfl (Nat.le_of_ble_eq_true rfl) dL_law_2150 ⟨(Nat.le_of_ble_eq_true rfl), (Nat.le_of_ble_eq_true rfl)⟩) hP hS (fun _ h => h) (fun H locs hP hS => ?_)
  refine lv_icmp_eq (tgt := 2158) hx hb dL_law_2153 (by decide) (fun _ => ?_) (fun c9 => absurd rfl c9)
  exact law_tail l C0 hS (lv_sub hl [0, 3] rfl) (Nat.le_of_ble_eq_true rfl) (Nat.le_of_ble_eq_true rfl)

